abbrev qctX5_reads2 (M : zM) (g : Nat) (t9 : Nat → Int) (n9 : Nat) (z : Int) (M' : zM) : Prop := (∀ u_ v_, (u_ ≠ 7 ∨ v_ ≠ 2) ∧ (u_ ≠ 7 ∨ v_ ≠ 3) ∧ (u_ ≠ 7 ∨ v_ ≠ 4) ∧ (u_ ≠ 7 ∨ v_ ≠ 5) ∧ (u_ ≠ 18 ∨ v_ ≠ 1) ∧ (u_ ≠ g ∨ v_ ≠ 1) ∧ (u_ ≠ g ∨ v_ ≠ 2) ∧ (u_ ≠ g ∨ v_ ≠ 3) ∧ u_ ≠ g + 1 → M' u_ v_ = M u_ v_) ∧ 0 ≤ z ∧ z ≤ 1 ∧ (Rz M' t9 n9 z (Rule9 t9 n9))
set_option maxHeartbeats 4000000 in
set_option maxRecDepth 100000 in
theorem ctX5_reads2 (Γ : Gam) (M : zM) (g : Nat) (hg : isX4 g) (t9 : Nat → Int) (n9 : Nat) (ex0 : Tx M t9 n9) : CtI Γ yX5_reads cX5_reads 7 (some .boolean) 34 1165 [aR Γ 18, aR Γ g] M (qctX5_reads2 M g t9 n9) := by
  refine met_i (by decide) (Nat.le_of_ble_eq_true rfl) (fun x hx hr => ?_)
  show G Γ x 7 (QI Γ x (qctX5_reads2 M g t9 n9)) M 0 [(0, aR Γ 18), (1, aR Γ g)] []
  refine g_aload_n (n := 1) hx 1 (dq tX5_reads 0 rfl) rfl rfl ?_
  refine g_callVv (n := 4) (As := []) (rest := []) hx (ctX4_clear Γ M g hg) mlX5_15 (obX4 hg) (dq tX5_reads 1 rfl) rfl (Nat.le_of_ble_eq_true rfl) (Nat.le_of_ble_eq_true rfl) (Nat.le_of_ble_eq_true rfl) rfl (fun M_2 p_4 => ?_)
  have f_5 := p_4
  refine g_aload_n (n := 5) hx 0 (dq tX5_reads 2 rfl) rfl rfl ?_
  refine g_iconst (n := 6) hx (dq tX5_reads 3 rfl) rfl ?_
  have e_6 : M_2 7 1 = M 7 1 := (f_5 7 1 (by omega))
  have e_7 : M_2 7 2 = M 7 2 := (f_5 7 2 (by omega))
  have e_8 : M_2 7 3 = M 7 3 := (f_5 7 3 (by omega))
  have e_9 : M_2 7 4 = M 7 4 := (f_5 7 4 (by omega))
  have e_10 : M_2 18 1 = M 18 1 := (f_5 18 1 (by omega))
  refine g_putI (n := 9) hx plX5_20 (sX5_1 (by decide)) (dq tX5_reads 4 rfl) rfl (by omega) (by omega) (fun M_11 m_12e m_12 => ?_)
  refine g_aload_n (n := 10) hx 0 (dq tX5_reads 5 rfl) rfl rfl ?_
  refine g_getR (n := 13) hx glX5_9 (sX5_0 (by decide)) (dq tX5_reads 6 rfl) rfl ?_
  have e_13 : M_11 7 1 = M_2 7 1 := (m_12 7 1 (by omega))
  have e_14 : M_11 7 2 = M_2 7 2 := (m_12 7 2 (by omega))
  have e_15 : M_11 7 3 = M_2 7 3 := (m_12 7 3 (by omega))
  have e_16 : M_11 7 4 = M_2 7 4 := (m_12 7 4 (by omega))
  refine g_callVv (n := 16) (As := []) (rest := []) hx (ctX7_rewind2 Γ M_11 t9 n9 (Tx.frame ex0 (fun c j hcj => ((m_12 c j (by omega)).trans (f_5 c j (by omega)))))) mlX5_24 (obX7 (by decide)) (dq tX5_reads 7 rfl) rfl (Nat.le_of_ble_eq_true rfl) (Nat.le_of_ble_eq_true rfl) (Nat.le_of_ble_eq_true rfl) rfl (fun M_18 p_20 => ?_)
  obtain ⟨f_21, h_22, h_23⟩ := p_20
  have e_24 : M_18 7 1 = M_11 7 1 := (f_21 7 1 (by omega))
  have e_25 : M_18 18 1 = M_11 18 1 := (f_21 18 1 (by omega))
  have h_26 := Tc.fst h_23
  have h_27 := Tc.le h_23
  have h_28 := Tc.stop h_23
  have h_29 := Tc.sle h_23
  have h_30 := Tc.at h_23
  have h_31 := (Tc.tx h_23).1
  refine g_iconst (n := 17) hx (dq tX5_reads 8 rfl) rfl ?_
  refine g_istore_n (n := 18) (lv' := [(2, vI 0), (0, aR Γ 18), (1, aR Γ g)]) hx (dq tX5_reads 9 rfl) (by decide) rfl rfl ?_
  have L_34 : ∀ (n_ : Nat) (i_32 : Int) (M_33 : zM), (0 ≤ i_32) → (i_32 ≤ 12) → (∀ u_ v_, (u_ ≠ 7 ∨ v_ ≠ 2) ∧ (u_ ≠ 7 ∨ v_ ≠ 3) ∧ (u_ ≠ 7 ∨ v_ ≠ 4) ∧ (u_ ≠ g ∨ v_ ≠ 1) ∧ (u_ ≠ g ∨ v_ ≠ 2) ∧ (u_ ≠ g ∨ v_ ≠ 3) ∧ u_ ≠ g + 1 ∧ (u_ ≠ 7 ∨ v_ ≠ 5) ∧ (u_ ≠ 18 ∨ v_ ≠ 1) → M_33 u_ v_ = M_18 u_ v_) → (Tc M_33 t9 n9 (M_33 7 2).toNat) → (Rl9 t9 n9 (13 - i_32).toNat i_32 ((M_33 7 2).toNat, M_33 18 1) = Rule9 t9 n9) → ((13 - i_32).toNat = n_) → G Γ x 7 (QI Γ x (qctX5_reads2 M g t9 n9)) M_33 18 [(2, vI i_32), (0, aR Γ 18), (1, aR Γ g)] [] := by
    intro n_
    induction n_ using Nat.strongRecOn with
    | _ n_ ih_35 =>
      intro i_32 M_33 h_40 h_41 f_36 h_38 h_39 hm_37
      have h_42 := Tc.fst h_38
      have h_43 := Tc.le h_38
      have h_44 := Tc.at h_38
      have h_45 := Tc.stop h_38
      have h_46 := Tc.sle h_38
      refine g_iload_n (n := 19) hx 0 (dq tX5_reads 10 rfl) rfl rfl ?_
      refine g_bipush (n := 21) hx (dq tX5_reads 11 rfl) rfl (by decide) ?_
      refine g_icmp_gt (n := 24) (t := 228) hx (dq tX5_reads 12 rfl) (by decide) rfl ⟨by omega, by omega⟩ ⟨by decide, by decide⟩ (fun c_47 => ?_) (fun c_47 => ?_)
      · omega
      · refine g_aload_n (n := 25) hx 1 (dq tX5_reads 13 rfl) rfl rfl ?_
        refine g_getR (n := 28) hx glX5_9 (sX5_0 (by decide)) (dq tX5_reads 14 rfl) rfl ?_
        refine g_ldcS (n := 30) (q := 26) hx rfl rfl rfl (dq tX5_reads 15 rfl) rfl ?_
        have e_48 : M_33 7 1 = M_18 7 1 := (f_36 7 1 (by omega))
        refine g_callVi (n := 33) (As := [sR Γ 26]) (rest := []) hx (ctX7_wordIn2 Γ M_33 26 _ rfl (by decide) t9 n9 ((M_33 7 2).toNat) h_38) mlX5_31 (obX7 (by decide)) (dq tX5_reads 16 rfl) rfl (Nat.le_of_ble_eq_true rfl) (Nat.le_of_ble_eq_true rfl) (Nat.le_of_ble_eq_true rfl) rfl (fun z_49 M_50 h_51 p_52 => ?_)
        obtain ⟨rfl, h_54⟩ := p_52
        have h_55 : wiR t9 ((M_33 7 2).toNat) ((stp t9 n9 ((M_33 7 2).toNat) : Int) - ((M_33 7 2).toNat : Nat)) 26 = wix t9 n9 ((M_33 7 2).toNat) wAct 0 := wR26 (Tc.le h_38)
        have h_56 := wAct_rg t9 n9 ((M_33 7 2).toNat)
        refine g_istore_n (n := 34) (lv' := [(3, vI z_49), (2, vI i_32), (0, aR Γ 18), (1, aR Γ g)]) hx (dq tX5_reads 17 rfl) (by decide) rfl rfl ?_
        refine g_iload_n (n := 35) hx 0 (dq tX5_reads 18 rfl) rfl rfl ?_
        refine g_iconst (n := 36) hx (dq tX5_reads 19 rfl) rfl ?_
        refine g_icmp_ne (n := 39) (t := 48) hx (dq tX5_reads 20 rfl) (by decide) rfl h_51 ⟨by decide, by decide⟩ (fun c_57 => ?_) (fun c_57 => ?_)
        · refine g_iload_n (n := 49) hx 1 (dq tX5_reads 26 rfl) rfl rfl ?_
          refine g_bipush (n := 51) hx (dq tX5_reads 27 rfl) rfl (by decide) ?_
          refine g_icmp_ne (n := 54) (t := 63) hx (dq tX5_reads 28 rfl) (by decide) rfl ⟨by omega, by omega⟩ ⟨by decide, by decide⟩ (fun c_58 => ?_) (fun c_58 => ?_)
          · refine g_aload_n (n := 64) hx 2 (dq tX5_reads 34 rfl) rfl rfl ?_
            refine g_getR (n := 67) hx glX5_9 (sX5_0 (by decide)) (dq tX5_reads 35 rfl) rfl ?_
            refine g_callVv (n := 70) (As := []) (rest := []) hx (ctX7_pass2 Γ M_33 t9 n9 (stp t9 n9 ((M_33 7 2).toNat)) (by omega) (by omega) (Tc.tx h_38)) mlX5_39 (obX7 (by decide)) (dq tX5_reads 36 rfl) rfl (Nat.le_of_ble_eq_true rfl) (Nat.le_of_ble_eq_true rfl) (Nat.le_of_ble_eq_true rfl) rfl (fun M_60 p_62 => ?_)
            obtain ⟨f_63, g_64, h_65⟩ := p_62
            have g_66 : Tc M_60 t9 n9 (nx t9 n9 ((M_33 7 2).toNat)) := h_65
            refine g_aload_n (n := 71) hx 3 (dq tX5_reads 37 rfl) rfl rfl ?_
            refine g_iload_n (n := 72) hx 0 (dq tX5_reads 38 rfl) rfl rfl ?_
            have e_67 : M_60 7 1 = M_33 7 1 := (f_63 7 1 (by omega))
            have e_68 : M_60 18 1 = M_33 18 1 := (f_63 18 1 (by omega))
            refine g_callVi (n := 75) (As := [vI z_49]) (rest := []) hx (ctX4_begin Γ M_60 g hg z_49 (by omega) (by omega)) mlX5_42 (obX4 hg) (dq tX5_reads 39 rfl) rfl (Nat.le_of_ble_eq_true rfl) (Nat.le_of_ble_eq_true rfl) (Nat.le_of_ble_eq_true rfl) rfl (fun z_69 M_70 h_71 p_72 => ?_)
            have f_73 := p_72
            have g_74 : Tc M_70 t9 n9 (nx t9 n9 ((M_33 7 2).toNat)) := Tc.frame g_66 (fun c j hcj => f_73 c j (by omega))
            refine g_istore (n := 77) (lv' := [(4, vI z_69), (3, vI z_49), (2, vI i_32), (0, aR Γ 18), (1, aR Γ g)]) hx (dq tX5_reads 40 rfl) (by decide) rfl rfl ?_
            refine g_iload_n (n := 78) hx 1 (dq tX5_reads 41 rfl) rfl rfl ?_
            refine g_iconst (n := 79) hx (dq tX5_reads 42 rfl) rfl ?_
            have J_81 : ∀ (j_76 : Int) (j_77 : Int) (M_78 : zM),  (0 ≤ j_76) → (j_76 ≤ 1) → (0 ≤ j_77) → (j_77 ≤ 1) → (∀ u_ v_, (u_ ≠ 7 ∨ v_ ≠ 2) ∧ (u_ ≠ 7 ∨ v_ ≠ 3) ∧ (u_ ≠ 7 ∨ v_ ≠ 4) ∧ (u_ ≠ 7 ∨ v_ ≠ 5) ∧ (u_ ≠ 18 ∨ v_ ≠ 1) ∧ (u_ ≠ g ∨ v_ ≠ 1) ∧ (u_ ≠ g ∨ v_ ≠ 2) ∧ (u_ ≠ g ∨ v_ ≠ 3) ∧ u_ ≠ g + 1 → M_78 u_ v_ = M_70 u_ v_) → (Tp M_78 t9 n9) → (Rc t9 n9 i_32 ((M_33 7 2).toNat, M_33 18 1) = .ok ((M_78 7 2).toNat, M_78 18 1)) → G Γ x 7 (QI Γ x (qctX5_reads2 M g t9 n9)) M_78 149 [(6, vI j_76), (5, vI j_77), (4, vI z_69), (3, vI z_49), (2, vI i_32), (0, aR Γ 18), (1, aR Γ g)] [] := by
              intro j_76 j_77 M_78 h_82 h_83 h_84 h_85 f_79 g_80 h_86
              have e_87 : M_78 7 1 = M_60 7 1 := ((f_79 7 1 (by omega))).trans (f_73 7 1 (by omega))
              have h_88 := Tc.fst g_80
              have h_89 := Tc.le g_80
              have h_90 := Tc.stop g_80
              have h_91 := Tc.sle g_80
              have h_92 := Tc.at g_80
              have h_93 := (Tc.tx g_80).1
              refine g_aload_n (n := 150) hx 6 (dq tX5_reads 79 rfl) rfl rfl ?_
              refine g_iload (n := 152) hx 1 (dq tX5_reads 80 rfl) rfl rfl ?_
              refine g_if_ne (n := 155) (t := 160) hx (dq tX5_reads 81 rfl) (by decide) rfl ⟨by omega, by omega⟩ (fun c_94 => ?_) (fun c_94 => ?_)
              · refine g_iload (n := 162) hx 0 (dq tX5_reads 84 rfl) rfl rfl ?_
                refine g_if_eq (n := 165) (t := 170) hx (dq tX5_reads 85 rfl) (by decide) rfl ⟨by omega, by omega⟩ (fun c_95 => ?_) (fun c_95 => ?_)
                · refine g_bipush (n := 172) hx (dq tX5_reads 88 rfl) rfl (by decide) ?_
                  refine g_callVv (n := 175) (As := [vI 30]) (rest := []) hx (ctX4_write Γ M_78 g hg 30 (by decide) (by decide)) mlX5_60 (obX4 hg) (dq tX5_reads 89 rfl) rfl (Nat.le_of_ble_eq_true rfl) (Nat.le_of_ble_eq_true rfl) (Nat.le_of_ble_eq_true rfl) rfl (fun M_97 p_99 => ?_)
                  have f_100 := p_99
                  have g_101 : Tc M_97 t9 n9 ((M_78 7 2).toNat) := Tc.frame g_80 (fun c j hcj => f_100 c j (by omega))
                  refine g_aload_n (n := 176) hx 6 (dq tX5_reads 90 rfl) rfl rfl ?_
                  refine g_iload (n := 178) hx 2 (dq tX5_reads 91 rfl) rfl rfl ?_
                  have e_102 : M_97 7 1 = M_78 7 1 := (f_100 7 1 (by omega))
                  have e_103 : M_97 7 2 = M_78 7 2 := (f_100 7 2 (by omega))
                  have e_104 : M_97 7 3 = M_78 7 3 := (f_100 7 3 (by omega))
                  have e_105 : M_97 7 4 = M_78 7 4 := (f_100 7 4 (by omega))
                  have e_106 : M_97 18 1 = M_78 18 1 := (f_100 18 1 (by omega))
                  refine g_callVv (n := 181) (As := [vI z_69]) (rest := []) hx (ctX4_close Γ M_97 g hg z_69 (by omega) (by omega)) mlX5_64 (obX4 hg) (dq tX5_reads 92 rfl) rfl (Nat.le_of_ble_eq_true rfl) (Nat.le_of_ble_eq_true rfl) (Nat.le_of_ble_eq_true rfl) rfl (fun M_108 p_110 => ?_)
                  have f_111 := p_110
                  have g_112 : Tc M_108 t9 n9 ((M_78 7 2).toNat) := Tc.frame g_101 (fun c j hcj => f_111 c j (by omega))
                  refine g_aload_n (n := 182) hx 5 (dq tX5_reads 93 rfl) rfl rfl ?_
                  refine g_getR (n := 185) hx glX5_9 (sX5_0 (by decide)) (dq tX5_reads 94 rfl) rfl ?_
                  refine g_getI (n := 188) hx glX5_67 (sX7_4 (by decide)) (dq tX5_reads 95 rfl) rfl (fun h_113l h_113u => ?_)
                  have e_114 : M_108 7 4 = M_97 7 4 := (f_111 7 4 (by omega))
                  refine g_iconst (n := 189) hx (dq tX5_reads 96 rfl) rfl ?_
                  refine g_icmp_ne (n := 192) (t := 194) hx (dq tX5_reads 97 rfl) (by decide) rfl (zrI h_113l h_113u (by decide) (by decide)) ⟨by decide, by decide⟩ (fun c_115 => ?_) (fun c_115 => ?_)
                  · refine g_aload_n (n := 195) hx 5 (dq tX5_reads 100 rfl) rfl rfl ?_
                    refine g_getR (n := 198) hx glX5_9 (sX5_0 (by decide)) (dq tX5_reads 101 rfl) rfl ?_
                    refine g_getI (n := 201) hx glX5_67 (sX7_4 (by decide)) (dq tX5_reads 102 rfl) rfl (fun h_116l h_116u => ?_)
                    refine g_bipush (n := 203) hx (dq tX5_reads 103 rfl) rfl (by decide) ?_
                    refine g_icmp_eq (n := 206) (t := 215) hx (dq tX5_reads 104 rfl) (by decide) rfl (zrI h_116l h_116u (by decide) (by decide)) ⟨by decide, by decide⟩ (fun c_117 => ?_) (fun c_117 => ?_)
                    · refine g_aload_n (n := 216) hx 5 (dq tX5_reads 110 rfl) rfl rfl ?_
                      refine g_getR (n := 219) hx glX5_9 (sX5_0 (by decide)) (dq tX5_reads 111 rfl) rfl ?_
                      have e_118 : M_108 7 1 = M_97 7 1 := (f_111 7 1 (by omega))
                      have e_119 : M_108 7 2 = M_97 7 2 := (f_111 7 2 (by omega))
                      have e_120 : M_108 7 3 = M_97 7 3 := (f_111 7 3 (by omega))
                      have e_121 : M_108 18 1 = M_97 18 1 := (f_111 18 1 (by omega))
                      refine g_callVv (n := 222) (As := []) (rest := []) hx (ctX7_pass2 Γ M_108 t9 n9 (stp t9 n9 ((M_78 7 2).toNat)) (by omega) (by omega) (Tc.tx g_112)) mlX5_39 (obX7 (by decide)) (dq tX5_reads 112 rfl) rfl (Nat.le_of_ble_eq_true rfl) (Nat.le_of_ble_eq_true rfl) (Nat.le_of_ble_eq_true rfl) rfl (fun M_123 p_125 => ?_)
                      obtain ⟨f_126, g_127, h_128⟩ := p_125
                      have g_129 : Tc M_123 t9 n9 (nx t9 n9 ((M_78 7 2).toNat)) := h_128
                      refine g_iinc (n := 225) (lv' := [(2, vI (i_32 + 1)), (6, vI j_76), (5, vI j_77), (4, vI z_69), (3, vI z_49), (0, aR Γ 18), (1, aR Γ g)]) hx 4 (dq tX5_reads 113 rfl) rfl (by decide) rfl rfl ?_
                      refine g_goto (n := 18) hx (dq tX5_reads 114 rfl) (by decide) ?_
                      have e_130 : M_123 7 1 = M_108 7 1 := (f_126 7 1 (by omega))
                      have e_131 : M_123 18 1 = M_108 18 1 := (f_126 18 1 (by omega))
                      refine g_lv [0, 5, 6] rfl ?_
                      exact ih_35 _ (by omega) (i_32 + 1) M_123 (by omega) (by omega) (fun u_ v_ huv_ => (((((((f_126 u_ v_ ⟨huv_.1, huv_.2.1, huv_.2.2.1⟩).trans (f_111 u_ v_ ⟨huv_.2.2.2.1, huv_.2.2.2.2.1, huv_.2.2.2.2.2.1, huv_.2.2.2.2.2.2.1⟩)).trans (f_100 u_ v_ ⟨huv_.2.2.2.1, huv_.2.2.2.2.1, huv_.2.2.2.2.2.1, huv_.2.2.2.2.2.2.1⟩)).trans (f_79 u_ v_ ⟨huv_.1, huv_.2.1, huv_.2.2.1, huv_.2.2.2.2.2.2.2.1, huv_.2.2.2.2.2.2.2.2, huv_.2.2.2.1, huv_.2.2.2.2.1, huv_.2.2.2.2.2.1, huv_.2.2.2.2.2.2.1⟩)).trans (f_73 u_ v_ ⟨huv_.2.2.2.1, huv_.2.2.2.2.1, huv_.2.2.2.2.2.1, huv_.2.2.2.2.2.2.1⟩)).trans (f_63 u_ v_ ⟨huv_.1, huv_.2.1, huv_.2.2.1⟩)).trans (f_36 u_ v_ ⟨huv_.1, huv_.2.1, huv_.2.2.1, huv_.2.2.2.1, huv_.2.2.2.2.1, huv_.2.2.2.2.2.1, huv_.2.2.2.2.2.2.1, huv_.2.2.2.2.2.2.2.1, huv_.2.2.2.2.2.2.2.2⟩))) (by have w1 := Tc.at g_129; rw [show (M_123 7 2).toNat = nx t9 n9 ((M_78 7 2).toNat) by omega]; exact g_129) (by have w1 := Tc.at g_129; exact Rl_on h_39 (by omega) (show Rc t9 n9 i_32 ((M_33 7 2).toNat, M_33 18 1) = .ok ((M_78 7 2).toNat, M_78 18 1) from by assumption) (by omega) (by omega) (by omega) (by omega)) rfl
                    · refine g_aload_n (n := 207) hx 5 (dq tX5_reads 105 rfl) rfl rfl ?_
                      refine g_getR (n := 210) hx glX5_9 (sX5_0 (by decide)) (dq tX5_reads 106 rfl) rfl ?_
                      refine g_iconst (n := 211) hx (dq tX5_reads 107 rfl) rfl ?_
                      have e_132 : M_108 7 1 = M_97 7 1 := (f_111 7 1 (by omega))
                      have e_133 : M_108 7 2 = M_97 7 2 := (f_111 7 2 (by omega))
                      have e_134 : M_108 7 3 = M_97 7 3 := (f_111 7 3 (by omega))
                      have e_135 : M_108 18 1 = M_97 18 1 := (f_111 18 1 (by omega))
                      refine g_callVi (n := 214) (As := [vI 0]) (rest := []) hx (ctX7_fails2 Γ M_108 0 (by decide) (by decide)) mlX5_35 (obX7 (by decide)) (dq tX5_reads 108 rfl) rfl (Nat.le_of_ble_eq_true rfl) (Nat.le_of_ble_eq_true rfl) (Nat.le_of_ble_eq_true rfl) rfl (fun z_136 M_137 h_138 p_139 => ?_)
                      obtain ⟨f_140, h_141, h_142, h_143⟩ := p_139
                      have g_144 : Tc M_137 t9 n9 ((M_78 7 2).toNat) := Tc.frame g_112 (fun c j hcj => f_140 c j (by omega))
                      have e_145 : M_137 7 1 = M_108 7 1 := (f_140 7 1 (by omega))
                      have e_146 : M_137 7 2 = M_108 7 2 := (f_140 7 2 (by omega))
                      have e_147 : M_137 7 3 = M_108 7 3 := (f_140 7 3 (by omega))
                      have e_148 : M_137 7 4 = M_108 7 4 := (f_140 7 4 (by omega))
                      have e_149 : M_137 18 1 = M_108 18 1 := (f_140 18 1 (by omega))
                      exact g_zret hx hr (dq tX5_reads 109 rfl) (by omega) ⟨(fun u_ v_ huv_ => ((((((((((f_140 u_ v_ huv_.2.2.2.1).trans (f_111 u_ v_ ⟨huv_.2.2.2.2.2.1, huv_.2.2.2.2.2.2.1, huv_.2.2.2.2.2.2.2.1, huv_.2.2.2.2.2.2.2.2⟩)).trans (f_100 u_ v_ ⟨huv_.2.2.2.2.2.1, huv_.2.2.2.2.2.2.1, huv_.2.2.2.2.2.2.2.1, huv_.2.2.2.2.2.2.2.2⟩)).trans (f_79 u_ v_ ⟨huv_.1, huv_.2.1, huv_.2.2.1, huv_.2.2.2.1, huv_.2.2.2.2.1, huv_.2.2.2.2.2.1, huv_.2.2.2.2.2.2.1, huv_.2.2.2.2.2.2.2.1, huv_.2.2.2.2.2.2.2.2⟩)).trans (f_73 u_ v_ ⟨huv_.2.2.2.2.2.1, huv_.2.2.2.2.2.2.1, huv_.2.2.2.2.2.2.2.1, huv_.2.2.2.2.2.2.2.2⟩)).trans (f_63 u_ v_ ⟨huv_.1, huv_.2.1, huv_.2.2.1⟩)).trans (f_36 u_ v_ ⟨huv_.1, huv_.2.1, huv_.2.2.1, huv_.2.2.2.2.2.1, huv_.2.2.2.2.2.2.1, huv_.2.2.2.2.2.2.2.1, huv_.2.2.2.2.2.2.2.2, huv_.2.2.2.1, huv_.2.2.2.2.1⟩)).trans (f_21 u_ v_ ⟨huv_.1, huv_.2.1, huv_.2.2.1, huv_.2.2.2.1⟩)).trans (m_12 u_ v_ huv_.2.2.2.2.1)).trans (f_5 u_ v_ ⟨huv_.2.2.2.2.2.1, huv_.2.2.2.2.2.2.1, huv_.2.2.2.2.2.2.2.1, huv_.2.2.2.2.2.2.2.2⟩))), (by omega), (by omega), (Or.inl ⟨by omega, Eq.trans (Rl_bad (f := (12 - i_32).toNat) h_39 (by omega) (show Rc t9 n9 i_32 ((M_33 7 2).toNat, M_33 18 1) = .ok ((M_78 7 2).toNat, M_78 18 1) from by assumption) (by omega) (by omega)) (er_eq (by omega))⟩)⟩
                  · refine g_iconst (n := 193) hx (dq tX5_reads 98 rfl) rfl ?_
                    have e_150 : M_108 7 1 = M_97 7 1 := (f_111 7 1 (by omega))
                    have e_151 : M_108 7 2 = M_97 7 2 := (f_111 7 2 (by omega))
                    have e_152 : M_108 7 3 = M_97 7 3 := (f_111 7 3 (by omega))
                    have e_153 : M_108 18 1 = M_97 18 1 := (f_111 18 1 (by omega))
                    exact g_zret hx hr (dq tX5_reads 99 rfl) (by omega) ⟨(fun u_ v_ huv_ => (((((((((f_111 u_ v_ ⟨huv_.2.2.2.2.2.1, huv_.2.2.2.2.2.2.1, huv_.2.2.2.2.2.2.2.1, huv_.2.2.2.2.2.2.2.2⟩).trans (f_100 u_ v_ ⟨huv_.2.2.2.2.2.1, huv_.2.2.2.2.2.2.1, huv_.2.2.2.2.2.2.2.1, huv_.2.2.2.2.2.2.2.2⟩)).trans (f_79 u_ v_ ⟨huv_.1, huv_.2.1, huv_.2.2.1, huv_.2.2.2.1, huv_.2.2.2.2.1, huv_.2.2.2.2.2.1, huv_.2.2.2.2.2.2.1, huv_.2.2.2.2.2.2.2.1, huv_.2.2.2.2.2.2.2.2⟩)).trans (f_73 u_ v_ ⟨huv_.2.2.2.2.2.1, huv_.2.2.2.2.2.2.1, huv_.2.2.2.2.2.2.2.1, huv_.2.2.2.2.2.2.2.2⟩)).trans (f_63 u_ v_ ⟨huv_.1, huv_.2.1, huv_.2.2.1⟩)).trans (f_36 u_ v_ ⟨huv_.1, huv_.2.1, huv_.2.2.1, huv_.2.2.2.2.2.1, huv_.2.2.2.2.2.2.1, huv_.2.2.2.2.2.2.2.1, huv_.2.2.2.2.2.2.2.2, huv_.2.2.2.1, huv_.2.2.2.2.1⟩)).trans (f_21 u_ v_ ⟨huv_.1, huv_.2.1, huv_.2.2.1, huv_.2.2.2.1⟩)).trans (m_12 u_ v_ huv_.2.2.2.2.1)).trans (f_5 u_ v_ ⟨huv_.2.2.2.2.2.1, huv_.2.2.2.2.2.2.1, huv_.2.2.2.2.2.2.2.1, huv_.2.2.2.2.2.2.2.2⟩))), (by omega), (by omega), (Or.inr ⟨rfl, (M_78 7 2).toNat, M_78 18 1, Rl_end (f := (12 - i_32).toNat) h_39 (by omega) (show Rc t9 n9 i_32 ((M_33 7 2).toNat, M_33 18 1) = .ok ((M_78 7 2).toNat, M_78 18 1) from by assumption) (by omega), g_112, by omega⟩)⟩
                · refine g_bipush (n := 167) hx (dq tX5_reads 86 rfl) rfl (by decide) ?_
                  refine g_goto (n := 172) hx (dq tX5_reads 87 rfl) (by decide) ?_
                  refine g_callVv (n := 175) (As := [vI 31]) (rest := []) hx (ctX4_write Γ M_78 g hg 31 (by decide) (by decide)) mlX5_60 (obX4 hg) (dq tX5_reads 89 rfl) rfl (Nat.le_of_ble_eq_true rfl) (Nat.le_of_ble_eq_true rfl) (Nat.le_of_ble_eq_true rfl) rfl (fun M_155 p_157 => ?_)
                  have f_158 := p_157
                  have g_159 : Tc M_155 t9 n9 ((M_78 7 2).toNat) := Tc.frame g_80 (fun c j hcj => f_158 c j (by omega))
                  refine g_aload_n (n := 176) hx 6 (dq tX5_reads 90 rfl) rfl rfl ?_
                  refine g_iload (n := 178) hx 2 (dq tX5_reads 91 rfl) rfl rfl ?_
                  have e_160 : M_155 7 1 = M_78 7 1 := (f_158 7 1 (by omega))
                  have e_161 : M_155 7 2 = M_78 7 2 := (f_158 7 2 (by omega))
                  have e_162 : M_155 7 3 = M_78 7 3 := (f_158 7 3 (by omega))
                  have e_163 : M_155 7 4 = M_78 7 4 := (f_158 7 4 (by omega))
                  have e_164 : M_155 18 1 = M_78 18 1 := (f_158 18 1 (by omega))
                  refine g_callVv (n := 181) (As := [vI z_69]) (rest := []) hx (ctX4_close Γ M_155 g hg z_69 (by omega) (by omega)) mlX5_64 (obX4 hg) (dq tX5_reads 92 rfl) rfl (Nat.le_of_ble_eq_true rfl) (Nat.le_of_ble_eq_true rfl) (Nat.le_of_ble_eq_true rfl) rfl (fun M_166 p_168 => ?_)
                  have f_169 := p_168
                  have g_170 : Tc M_166 t9 n9 ((M_78 7 2).toNat) := Tc.frame g_159 (fun c j hcj => f_169 c j (by omega))
                  refine g_aload_n (n := 182) hx 5 (dq tX5_reads 93 rfl) rfl rfl ?_
                  refine g_getR (n := 185) hx glX5_9 (sX5_0 (by decide)) (dq tX5_reads 94 rfl) rfl ?_
                  refine g_getI (n := 188) hx glX5_67 (sX7_4 (by decide)) (dq tX5_reads 95 rfl) rfl (fun h_171l h_171u => ?_)
                  have e_172 : M_166 7 4 = M_155 7 4 := (f_169 7 4 (by omega))
                  refine g_iconst (n := 189) hx (dq tX5_reads 96 rfl) rfl ?_
                  refine g_icmp_ne (n := 192) (t := 194) hx (dq tX5_reads 97 rfl) (by decide) rfl (zrI h_171l h_171u (by decide) (by decide)) ⟨by decide, by decide⟩ (fun c_173 => ?_) (fun c_173 => ?_)
                  · refine g_aload_n (n := 195) hx 5 (dq tX5_reads 100 rfl) rfl rfl ?_
                    refine g_getR (n := 198) hx glX5_9 (sX5_0 (by decide)) (dq tX5_reads 101 rfl) rfl ?_
                    refine g_getI (n := 201) hx glX5_67 (sX7_4 (by decide)) (dq tX5_reads 102 rfl) rfl (fun h_174l h_174u => ?_)
                    refine g_bipush (n := 203) hx (dq tX5_reads 103 rfl) rfl (by decide) ?_
                    refine g_icmp_eq (n := 206) (t := 215) hx (dq tX5_reads 104 rfl) (by decide) rfl (zrI h_174l h_174u (by decide) (by decide)) ⟨by decide, by decide⟩ (fun c_175 => ?_) (fun c_175 => ?_)
                    · refine g_aload_n (n := 216) hx 5 (dq tX5_reads 110 rfl) rfl rfl ?_
                      refine g_getR (n := 219) hx glX5_9 (sX5_0 (by decide)) (dq tX5_reads 111 rfl) rfl ?_
                      have e_176 : M_166 7 1 = M_155 7 1 := (f_169 7 1 (by omega))
                      have e_177 : M_166 7 2 = M_155 7 2 := (f_169 7 2 (by omega))
                      have e_178 : M_166 7 3 = M_155 7 3 := (f_169 7 3 (by omega))
                      have e_179 : M_166 18 1 = M_155 18 1 := (f_169 18 1 (by omega))
                      refine g_callVv (n := 222) (As := []) (rest := []) hx (ctX7_pass2 Γ M_166 t9 n9 (stp t9 n9 ((M_78 7 2).toNat)) (by omega) (by omega) (Tc.tx g_170)) mlX5_39 (obX7 (by decide)) (dq tX5_reads 112 rfl) rfl (Nat.le_of_ble_eq_true rfl) (Nat.le_of_ble_eq_true rfl) (Nat.le_of_ble_eq_true rfl) rfl (fun M_181 p_183 => ?_)
                      obtain ⟨f_184, g_185, h_186⟩ := p_183
                      have g_187 : Tc M_181 t9 n9 (nx t9 n9 ((M_78 7 2).toNat)) := h_186
                      refine g_iinc (n := 225) (lv' := [(2, vI (i_32 + 1)), (6, vI j_76), (5, vI j_77), (4, vI z_69), (3, vI z_49), (0, aR Γ 18), (1, aR Γ g)]) hx 4 (dq tX5_reads 113 rfl) rfl (by decide) rfl rfl ?_
                      refine g_goto (n := 18) hx (dq tX5_reads 114 rfl) (by decide) ?_
                      have e_188 : M_181 7 1 = M_166 7 1 := (f_184 7 1 (by omega))
                      have e_189 : M_181 18 1 = M_166 18 1 := (f_184 18 1 (by omega))
                      refine g_lv [0, 5, 6] rfl ?_
                      exact ih_35 _ (by omega) (i_32 + 1) M_181 (by omega) (by omega) (fun u_ v_ huv_ => (((((((f_184 u_ v_ ⟨huv_.1, huv_.2.1, huv_.2.2.1⟩).trans (f_169 u_ v_ ⟨huv_.2.2.2.1, huv_.2.2.2.2.1, huv_.2.2.2.2.2.1, huv_.2.2.2.2.2.2.1⟩)).trans (f_158 u_ v_ ⟨huv_.2.2.2.1, huv_.2.2.2.2.1, huv_.2.2.2.2.2.1, huv_.2.2.2.2.2.2.1⟩)).trans (f_79 u_ v_ ⟨huv_.1, huv_.2.1, huv_.2.2.1, huv_.2.2.2.2.2.2.2.1, huv_.2.2.2.2.2.2.2.2, huv_.2.2.2.1, huv_.2.2.2.2.1, huv_.2.2.2.2.2.1, huv_.2.2.2.2.2.2.1⟩)).trans (f_73 u_ v_ ⟨huv_.2.2.2.1, huv_.2.2.2.2.1, huv_.2.2.2.2.2.1, huv_.2.2.2.2.2.2.1⟩)).trans (f_63 u_ v_ ⟨huv_.1, huv_.2.1, huv_.2.2.1⟩)).trans (f_36 u_ v_ ⟨huv_.1, huv_.2.1, huv_.2.2.1, huv_.2.2.2.1, huv_.2.2.2.2.1, huv_.2.2.2.2.2.1, huv_.2.2.2.2.2.2.1, huv_.2.2.2.2.2.2.2.1, huv_.2.2.2.2.2.2.2.2⟩))) (by have w1 := Tc.at g_187; rw [show (M_181 7 2).toNat = nx t9 n9 ((M_78 7 2).toNat) by omega]; exact g_187) (by have w1 := Tc.at g_187; exact Rl_on h_39 (by omega) (show Rc t9 n9 i_32 ((M_33 7 2).toNat, M_33 18 1) = .ok ((M_78 7 2).toNat, M_78 18 1) from by assumption) (by omega) (by omega) (by omega) (by omega)) rfl
                    · refine g_aload_n (n := 207) hx 5 (dq tX5_reads 105 rfl) rfl rfl ?_
                      refine g_getR (n := 210) hx glX5_9 (sX5_0 (by decide)) (dq tX5_reads 106 rfl) rfl ?_
                      refine g_iconst (n := 211) hx (dq tX5_reads 107 rfl) rfl ?_
                      have e_190 : M_166 7 1 = M_155 7 1 := (f_169 7 1 (by omega))
                      have e_191 : M_166 7 2 = M_155 7 2 := (f_169 7 2 (by omega))
                      have e_192 : M_166 7 3 = M_155 7 3 := (f_169 7 3 (by omega))
                      have e_193 : M_166 18 1 = M_155 18 1 := (f_169 18 1 (by omega))
                      refine g_callVi (n := 214) (As := [vI 0]) (rest := []) hx (ctX7_fails2 Γ M_166 0 (by decide) (by decide)) mlX5_35 (obX7 (by decide)) (dq tX5_reads 108 rfl) rfl (Nat.le_of_ble_eq_true rfl) (Nat.le_of_ble_eq_true rfl) (Nat.le_of_ble_eq_true rfl) rfl (fun z_194 M_195 h_196 p_197 => ?_)
                      obtain ⟨f_198, h_199, h_200, h_201⟩ := p_197
                      have g_202 : Tc M_195 t9 n9 ((M_78 7 2).toNat) := Tc.frame g_170 (fun c j hcj => f_198 c j (by omega))
                      have e_203 : M_195 7 1 = M_166 7 1 := (f_198 7 1 (by omega))
                      have e_204 : M_195 7 2 = M_166 7 2 := (f_198 7 2 (by omega))
                      have e_205 : M_195 7 3 = M_166 7 3 := (f_198 7 3 (by omega))
                      have e_206 : M_195 7 4 = M_166 7 4 := (f_198 7 4 (by omega))
                      have e_207 : M_195 18 1 = M_166 18 1 := (f_198 18 1 (by omega))
                      exact g_zret hx hr (dq tX5_reads 109 rfl) (by omega) ⟨(fun u_ v_ huv_ => ((((((((((f_198 u_ v_ huv_.2.2.2.1).trans (f_169 u_ v_ ⟨huv_.2.2.2.2.2.1, huv_.2.2.2.2.2.2.1, huv_.2.2.2.2.2.2.2.1, huv_.2.2.2.2.2.2.2.2⟩)).trans (f_158 u_ v_ ⟨huv_.2.2.2.2.2.1, huv_.2.2.2.2.2.2.1, huv_.2.2.2.2.2.2.2.1, huv_.2.2.2.2.2.2.2.2⟩)).trans (f_79 u_ v_ ⟨huv_.1, huv_.2.1, huv_.2.2.1, huv_.2.2.2.1, huv_.2.2.2.2.1, huv_.2.2.2.2.2.1, huv_.2.2.2.2.2.2.1, huv_.2.2.2.2.2.2.2.1, huv_.2.2.2.2.2.2.2.2⟩)).trans (f_73 u_ v_ ⟨huv_.2.2.2.2.2.1, huv_.2.2.2.2.2.2.1, huv_.2.2.2.2.2.2.2.1, huv_.2.2.2.2.2.2.2.2⟩)).trans (f_63 u_ v_ ⟨huv_.1, huv_.2.1, huv_.2.2.1⟩)).trans (f_36 u_ v_ ⟨huv_.1, huv_.2.1, huv_.2.2.1, huv_.2.2.2.2.2.1, huv_.2.2.2.2.2.2.1, huv_.2.2.2.2.2.2.2.1, huv_.2.2.2.2.2.2.2.2, huv_.2.2.2.1, huv_.2.2.2.2.1⟩)).trans (f_21 u_ v_ ⟨huv_.1, huv_.2.1, huv_.2.2.1, huv_.2.2.2.1⟩)).trans (m_12 u_ v_ huv_.2.2.2.2.1)).trans (f_5 u_ v_ ⟨huv_.2.2.2.2.2.1, huv_.2.2.2.2.2.2.1, huv_.2.2.2.2.2.2.2.1, huv_.2.2.2.2.2.2.2.2⟩))), (by omega), (by omega), (Or.inl ⟨by omega, Eq.trans (Rl_bad (f := (12 - i_32).toNat) h_39 (by omega) (show Rc t9 n9 i_32 ((M_33 7 2).toNat, M_33 18 1) = .ok ((M_78 7 2).toNat, M_78 18 1) from by assumption) (by omega) (by omega)) (er_eq (by omega))⟩)⟩
                  · refine g_iconst (n := 193) hx (dq tX5_reads 98 rfl) rfl ?_
                    have e_208 : M_166 7 1 = M_155 7 1 := (f_169 7 1 (by omega))
                    have e_209 : M_166 7 2 = M_155 7 2 := (f_169 7 2 (by omega))
                    have e_210 : M_166 7 3 = M_155 7 3 := (f_169 7 3 (by omega))
                    have e_211 : M_166 18 1 = M_155 18 1 := (f_169 18 1 (by omega))
                    exact g_zret hx hr (dq tX5_reads 99 rfl) (by omega) ⟨(fun u_ v_ huv_ => (((((((((f_169 u_ v_ ⟨huv_.2.2.2.2.2.1, huv_.2.2.2.2.2.2.1, huv_.2.2.2.2.2.2.2.1, huv_.2.2.2.2.2.2.2.2⟩).trans (f_158 u_ v_ ⟨huv_.2.2.2.2.2.1, huv_.2.2.2.2.2.2.1, huv_.2.2.2.2.2.2.2.1, huv_.2.2.2.2.2.2.2.2⟩)).trans (f_79 u_ v_ ⟨huv_.1, huv_.2.1, huv_.2.2.1, huv_.2.2.2.1, huv_.2.2.2.2.1, huv_.2.2.2.2.2.1, huv_.2.2.2.2.2.2.1, huv_.2.2.2.2.2.2.2.1, huv_.2.2.2.2.2.2.2.2⟩)).trans (f_73 u_ v_ ⟨huv_.2.2.2.2.2.1, huv_.2.2.2.2.2.2.1, huv_.2.2.2.2.2.2.2.1, huv_.2.2.2.2.2.2.2.2⟩)).trans (f_63 u_ v_ ⟨huv_.1, huv_.2.1, huv_.2.2.1⟩)).trans (f_36 u_ v_ ⟨huv_.1, huv_.2.1, huv_.2.2.1, huv_.2.2.2.2.2.1, huv_.2.2.2.2.2.2.1, huv_.2.2.2.2.2.2.2.1, huv_.2.2.2.2.2.2.2.2, huv_.2.2.2.1, huv_.2.2.2.2.1⟩)).trans (f_21 u_ v_ ⟨huv_.1, huv_.2.1, huv_.2.2.1, huv_.2.2.2.1⟩)).trans (m_12 u_ v_ huv_.2.2.2.2.1)).trans (f_5 u_ v_ ⟨huv_.2.2.2.2.2.1, huv_.2.2.2.2.2.2.1, huv_.2.2.2.2.2.2.2.1, huv_.2.2.2.2.2.2.2.2⟩))), (by omega), (by omega), (Or.inr ⟨rfl, (M_78 7 2).toNat, M_78 18 1, Rl_end (f := (12 - i_32).toNat) h_39 (by omega) (show Rc t9 n9 i_32 ((M_33 7 2).toNat, M_33 18 1) = .ok ((M_78 7 2).toNat, M_78 18 1) from by assumption) (by omega), g_170, by omega⟩)⟩
              · refine g_bipush (n := 157) hx (dq tX5_reads 82 rfl) rfl (by decide) ?_
                refine g_goto (n := 172) hx (dq tX5_reads 83 rfl) (by decide) ?_
                refine g_callVv (n := 175) (As := [vI 29]) (rest := []) hx (ctX4_write Γ M_78 g hg 29 (by decide) (by decide)) mlX5_60 (obX4 hg) (dq tX5_reads 89 rfl) rfl (Nat.le_of_ble_eq_true rfl) (Nat.le_of_ble_eq_true rfl) (Nat.le_of_ble_eq_true rfl) rfl (fun M_213 p_215 => ?_)
                have f_216 := p_215
                have g_217 : Tc M_213 t9 n9 ((M_78 7 2).toNat) := Tc.frame g_80 (fun c j hcj => f_216 c j (by omega))
                refine g_aload_n (n := 176) hx 6 (dq tX5_reads 90 rfl) rfl rfl ?_
                refine g_iload (n := 178) hx 2 (dq tX5_reads 91 rfl) rfl rfl ?_
                have e_218 : M_213 7 1 = M_78 7 1 := (f_216 7 1 (by omega))
                have e_219 : M_213 7 2 = M_78 7 2 := (f_216 7 2 (by omega))
                have e_220 : M_213 7 3 = M_78 7 3 := (f_216 7 3 (by omega))
                have e_221 : M_213 7 4 = M_78 7 4 := (f_216 7 4 (by omega))
                have e_222 : M_213 18 1 = M_78 18 1 := (f_216 18 1 (by omega))
                refine g_callVv (n := 181) (As := [vI z_69]) (rest := []) hx (ctX4_close Γ M_213 g hg z_69 (by omega) (by omega)) mlX5_64 (obX4 hg) (dq tX5_reads 92 rfl) rfl (Nat.le_of_ble_eq_true rfl) (Nat.le_of_ble_eq_true rfl) (Nat.le_of_ble_eq_true rfl) rfl (fun M_224 p_226 => ?_)
                have f_227 := p_226
                have g_228 : Tc M_224 t9 n9 ((M_78 7 2).toNat) := Tc.frame g_217 (fun c j hcj => f_227 c j (by omega))
                refine g_aload_n (n := 182) hx 5 (dq tX5_reads 93 rfl) rfl rfl ?_
                refine g_getR (n := 185) hx glX5_9 (sX5_0 (by decide)) (dq tX5_reads 94 rfl) rfl ?_
                refine g_getI (n := 188) hx glX5_67 (sX7_4 (by decide)) (dq tX5_reads 95 rfl) rfl (fun h_229l h_229u => ?_)
                have e_230 : M_224 7 4 = M_213 7 4 := (f_227 7 4 (by omega))
                refine g_iconst (n := 189) hx (dq tX5_reads 96 rfl) rfl ?_
                refine g_icmp_ne (n := 192) (t := 194) hx (dq tX5_reads 97 rfl) (by decide) rfl (zrI h_229l h_229u (by decide) (by decide)) ⟨by decide, by decide⟩ (fun c_231 => ?_) (fun c_231 => ?_)
                · refine g_aload_n (n := 195) hx 5 (dq tX5_reads 100 rfl) rfl rfl ?_
                  refine g_getR (n := 198) hx glX5_9 (sX5_0 (by decide)) (dq tX5_reads 101 rfl) rfl ?_
                  refine g_getI (n := 201) hx glX5_67 (sX7_4 (by decide)) (dq tX5_reads 102 rfl) rfl (fun h_232l h_232u => ?_)
                  refine g_bipush (n := 203) hx (dq tX5_reads 103 rfl) rfl (by decide) ?_
                  refine g_icmp_eq (n := 206) (t := 215) hx (dq tX5_reads 104 rfl) (by decide) rfl (zrI h_232l h_232u (by decide) (by decide)) ⟨by decide, by decide⟩ (fun c_233 => ?_) (fun c_233 => ?_)
                  · refine g_aload_n (n := 216) hx 5 (dq tX5_reads 110 rfl) rfl rfl ?_
                    refine g_getR (n := 219) hx glX5_9 (sX5_0 (by decide)) (dq tX5_reads 111 rfl) rfl ?_
                    have e_234 : M_224 7 1 = M_213 7 1 := (f_227 7 1 (by omega))
                    have e_235 : M_224 7 2 = M_213 7 2 := (f_227 7 2 (by omega))
                    have e_236 : M_224 7 3 = M_213 7 3 := (f_227 7 3 (by omega))
                    have e_237 : M_224 18 1 = M_213 18 1 := (f_227 18 1 (by omega))
                    refine g_callVv (n := 222) (As := []) (rest := []) hx (ctX7_pass2 Γ M_224 t9 n9 (stp t9 n9 ((M_78 7 2).toNat)) (by omega) (by omega) (Tc.tx g_228)) mlX5_39 (obX7 (by decide)) (dq tX5_reads 112 rfl) rfl (Nat.le_of_ble_eq_true rfl) (Nat.le_of_ble_eq_true rfl) (Nat.le_of_ble_eq_true rfl) rfl (fun M_239 p_241 => ?_)
                    obtain ⟨f_242, g_243, h_244⟩ := p_241
                    have g_245 : Tc M_239 t9 n9 (nx t9 n9 ((M_78 7 2).toNat)) := h_244
                    refine g_iinc (n := 225) (lv' := [(2, vI (i_32 + 1)), (6, vI j_76), (5, vI j_77), (4, vI z_69), (3, vI z_49), (0, aR Γ 18), (1, aR Γ g)]) hx 4 (dq tX5_reads 113 rfl) rfl (by decide) rfl rfl ?_
                    refine g_goto (n := 18) hx (dq tX5_reads 114 rfl) (by decide) ?_
                    have e_246 : M_239 7 1 = M_224 7 1 := (f_242 7 1 (by omega))
                    have e_247 : M_239 18 1 = M_224 18 1 := (f_242 18 1 (by omega))
                    refine g_lv [0, 5, 6] rfl ?_
                    exact ih_35 _ (by omega) (i_32 + 1) M_239 (by omega) (by omega) (fun u_ v_ huv_ => (((((((f_242 u_ v_ ⟨huv_.1, huv_.2.1, huv_.2.2.1⟩).trans (f_227 u_ v_ ⟨huv_.2.2.2.1, huv_.2.2.2.2.1, huv_.2.2.2.2.2.1, huv_.2.2.2.2.2.2.1⟩)).trans (f_216 u_ v_ ⟨huv_.2.2.2.1, huv_.2.2.2.2.1, huv_.2.2.2.2.2.1, huv_.2.2.2.2.2.2.1⟩)).trans (f_79 u_ v_ ⟨huv_.1, huv_.2.1, huv_.2.2.1, huv_.2.2.2.2.2.2.2.1, huv_.2.2.2.2.2.2.2.2, huv_.2.2.2.1, huv_.2.2.2.2.1, huv_.2.2.2.2.2.1, huv_.2.2.2.2.2.2.1⟩)).trans (f_73 u_ v_ ⟨huv_.2.2.2.1, huv_.2.2.2.2.1, huv_.2.2.2.2.2.1, huv_.2.2.2.2.2.2.1⟩)).trans (f_63 u_ v_ ⟨huv_.1, huv_.2.1, huv_.2.2.1⟩)).trans (f_36 u_ v_ ⟨huv_.1, huv_.2.1, huv_.2.2.1, huv_.2.2.2.1, huv_.2.2.2.2.1, huv_.2.2.2.2.2.1, huv_.2.2.2.2.2.2.1, huv_.2.2.2.2.2.2.2.1, huv_.2.2.2.2.2.2.2.2⟩))) (by have w1 := Tc.at g_245; rw [show (M_239 7 2).toNat = nx t9 n9 ((M_78 7 2).toNat) by omega]; exact g_245) (by have w1 := Tc.at g_245; exact Rl_on h_39 (by omega) (show Rc t9 n9 i_32 ((M_33 7 2).toNat, M_33 18 1) = .ok ((M_78 7 2).toNat, M_78 18 1) from by assumption) (by omega) (by omega) (by omega) (by omega)) rfl
                  · refine g_aload_n (n := 207) hx 5 (dq tX5_reads 105 rfl) rfl rfl ?_
                    refine g_getR (n := 210) hx glX5_9 (sX5_0 (by decide)) (dq tX5_reads 106 rfl) rfl ?_
                    refine g_iconst (n := 211) hx (dq tX5_reads 107 rfl) rfl ?_
                    have e_248 : M_224 7 1 = M_213 7 1 := (f_227 7 1 (by omega))
                    have e_249 : M_224 7 2 = M_213 7 2 := (f_227 7 2 (by omega))
                    have e_250 : M_224 7 3 = M_213 7 3 := (f_227 7 3 (by omega))
                    have e_251 : M_224 18 1 = M_213 18 1 := (f_227 18 1 (by omega))
                    refine g_callVi (n := 214) (As := [vI 0]) (rest := []) hx (ctX7_fails2 Γ M_224 0 (by decide) (by decide)) mlX5_35 (obX7 (by decide)) (dq tX5_reads 108 rfl) rfl (Nat.le_of_ble_eq_true rfl) (Nat.le_of_ble_eq_true rfl) (Nat.le_of_ble_eq_true rfl) rfl (fun z_252 M_253 h_254 p_255 => ?_)
                    obtain ⟨f_256, h_257, h_258, h_259⟩ := p_255
                    have g_260 : Tc M_253 t9 n9 ((M_78 7 2).toNat) := Tc.frame g_228 (fun c j hcj => f_256 c j (by omega))
                    have e_261 : M_253 7 1 = M_224 7 1 := (f_256 7 1 (by omega))
                    have e_262 : M_253 7 2 = M_224 7 2 := (f_256 7 2 (by omega))
                    have e_263 : M_253 7 3 = M_224 7 3 := (f_256 7 3 (by omega))
                    have e_264 : M_253 7 4 = M_224 7 4 := (f_256 7 4 (by omega))
                    have e_265 : M_253 18 1 = M_224 18 1 := (f_256 18 1 (by omega))
                    exact g_zret hx hr (dq tX5_reads 109 rfl) (by omega) ⟨(fun u_ v_ huv_ => ((((((((((f_256 u_ v_ huv_.2.2.2.1).trans (f_227 u_ v_ ⟨huv_.2.2.2.2.2.1, huv_.2.2.2.2.2.2.1, huv_.2.2.2.2.2.2.2.1, huv_.2.2.2.2.2.2.2.2⟩)).trans (f_216 u_ v_ ⟨huv_.2.2.2.2.2.1, huv_.2.2.2.2.2.2.1, huv_.2.2.2.2.2.2.2.1, huv_.2.2.2.2.2.2.2.2⟩)).trans (f_79 u_ v_ ⟨huv_.1, huv_.2.1, huv_.2.2.1, huv_.2.2.2.1, huv_.2.2.2.2.1, huv_.2.2.2.2.2.1, huv_.2.2.2.2.2.2.1, huv_.2.2.2.2.2.2.2.1, huv_.2.2.2.2.2.2.2.2⟩)).trans (f_73 u_ v_ ⟨huv_.2.2.2.2.2.1, huv_.2.2.2.2.2.2.1, huv_.2.2.2.2.2.2.2.1, huv_.2.2.2.2.2.2.2.2⟩)).trans (f_63 u_ v_ ⟨huv_.1, huv_.2.1, huv_.2.2.1⟩)).trans (f_36 u_ v_ ⟨huv_.1, huv_.2.1, huv_.2.2.1, huv_.2.2.2.2.2.1, huv_.2.2.2.2.2.2.1, huv_.2.2.2.2.2.2.2.1, huv_.2.2.2.2.2.2.2.2, huv_.2.2.2.1, huv_.2.2.2.2.1⟩)).trans (f_21 u_ v_ ⟨huv_.1, huv_.2.1, huv_.2.2.1, huv_.2.2.2.1⟩)).trans (m_12 u_ v_ huv_.2.2.2.2.1)).trans (f_5 u_ v_ ⟨huv_.2.2.2.2.2.1, huv_.2.2.2.2.2.2.1, huv_.2.2.2.2.2.2.2.1, huv_.2.2.2.2.2.2.2.2⟩))), (by omega), (by omega), (Or.inl ⟨by omega, Eq.trans (Rl_bad (f := (12 - i_32).toNat) h_39 (by omega) (show Rc t9 n9 i_32 ((M_33 7 2).toNat, M_33 18 1) = .ok ((M_78 7 2).toNat, M_78 18 1) from by assumption) (by omega) (by omega)) (er_eq (by omega))⟩)⟩
                · refine g_iconst (n := 193) hx (dq tX5_reads 98 rfl) rfl ?_
                  have e_266 : M_224 7 1 = M_213 7 1 := (f_227 7 1 (by omega))
                  have e_267 : M_224 7 2 = M_213 7 2 := (f_227 7 2 (by omega))
                  have e_268 : M_224 7 3 = M_213 7 3 := (f_227 7 3 (by omega))
                  have e_269 : M_224 18 1 = M_213 18 1 := (f_227 18 1 (by omega))
                  exact g_zret hx hr (dq tX5_reads 99 rfl) (by omega) ⟨(fun u_ v_ huv_ => (((((((((f_227 u_ v_ ⟨huv_.2.2.2.2.2.1, huv_.2.2.2.2.2.2.1, huv_.2.2.2.2.2.2.2.1, huv_.2.2.2.2.2.2.2.2⟩).trans (f_216 u_ v_ ⟨huv_.2.2.2.2.2.1, huv_.2.2.2.2.2.2.1, huv_.2.2.2.2.2.2.2.1, huv_.2.2.2.2.2.2.2.2⟩)).trans (f_79 u_ v_ ⟨huv_.1, huv_.2.1, huv_.2.2.1, huv_.2.2.2.1, huv_.2.2.2.2.1, huv_.2.2.2.2.2.1, huv_.2.2.2.2.2.2.1, huv_.2.2.2.2.2.2.2.1, huv_.2.2.2.2.2.2.2.2⟩)).trans (f_73 u_ v_ ⟨huv_.2.2.2.2.2.1, huv_.2.2.2.2.2.2.1, huv_.2.2.2.2.2.2.2.1, huv_.2.2.2.2.2.2.2.2⟩)).trans (f_63 u_ v_ ⟨huv_.1, huv_.2.1, huv_.2.2.1⟩)).trans (f_36 u_ v_ ⟨huv_.1, huv_.2.1, huv_.2.2.1, huv_.2.2.2.2.2.1, huv_.2.2.2.2.2.2.1, huv_.2.2.2.2.2.2.2.1, huv_.2.2.2.2.2.2.2.2, huv_.2.2.2.1, huv_.2.2.2.2.1⟩)).trans (f_21 u_ v_ ⟨huv_.1, huv_.2.1, huv_.2.2.1, huv_.2.2.2.1⟩)).trans (m_12 u_ v_ huv_.2.2.2.2.1)).trans (f_5 u_ v_ ⟨huv_.2.2.2.2.2.1, huv_.2.2.2.2.2.2.1, huv_.2.2.2.2.2.2.2.1, huv_.2.2.2.2.2.2.2.2⟩))), (by omega), (by omega), (Or.inr ⟨rfl, (M_78 7 2).toNat, M_78 18 1, Rl_end (f := (12 - i_32).toNat) h_39 (by omega) (show Rc t9 n9 i_32 ((M_33 7 2).toNat, M_33 18 1) = .ok ((M_78 7 2).toNat, M_78 18 1) from by assumption) (by omega), g_228, by omega⟩)⟩
            refine g_icmp_eq (n := 82) (t := 87) hx (dq tX5_reads 43 rfl) (by decide) rfl h_51 ⟨by decide, by decide⟩ (fun c_75 => ?_) (fun c_75 => ?_)
            · refine g_iconst (n := 88) hx (dq tX5_reads 47 rfl) rfl ?_
              refine g_goto (n := 92) hx (dq tX5_reads 48 rfl) (by decide) ?_
              refine g_istore (n := 94) (lv' := [(5, vI 1), (4, vI z_69), (3, vI z_49), (2, vI i_32), (0, aR Γ 18), (1, aR Γ g)]) hx (dq tX5_reads 50 rfl) (by decide) rfl rfl ?_
              refine g_iload (n := 96) hx 0 (dq tX5_reads 51 rfl) rfl rfl ?_
              refine g_if_eq (n := 99) (t := 109) hx (dq tX5_reads 52 rfl) (by decide) rfl ⟨by decide, by decide⟩ (fun c_270 => ?_) (fun c_270 => ?_)
              · omega
              · refine g_aload_n (n := 100) hx 4 (dq tX5_reads 53 rfl) rfl rfl ?_
                refine g_aload_n (n := 101) hx 5 (dq tX5_reads 54 rfl) rfl rfl ?_
                have e_271 : M_70 7 1 = M_60 7 1 := (f_73 7 1 (by omega))
                have e_272 : M_70 7 2 = M_60 7 2 := (f_73 7 2 (by omega))
                have e_273 : M_70 7 3 = M_60 7 3 := (f_73 7 3 (by omega))
                have e_274 : M_70 7 4 = M_60 7 4 := (f_73 7 4 (by omega))
                have e_275 : M_70 18 1 = M_60 18 1 := (f_73 18 1 (by omega))
                refine g_callVi (n := 104) (As := [aR Γ g]) (rest := []) hx (ctX5_readsSum2 Γ M_70 g hg t9 n9 (nx t9 n9 ((M_33 7 2).toNat)) g_74) mlX5_46 (obX5 (by decide)) (dq tX5_reads 55 rfl) rfl (Nat.le_of_ble_eq_true rfl) (Nat.le_of_ble_eq_true rfl) (Nat.le_of_ble_eq_true rfl) rfl (fun z_276 M_277 h_278 p_279 => ?_)
                obtain ⟨f_280, h_281, h_282, h_283⟩ := p_279
                refine g_if_ne (n := 107) (t := 109) hx (dq tX5_reads 56 rfl) (by decide) rfl h_278 (fun c_284 => ?_) (fun c_284 => ?_)
                · obtain ⟨y_285a, y_285c, y_285e, y_285t, y_285k⟩ := Rz.yes h_283 (by omega)
                  refine g_iload (n := 111) hx 0 (dq tX5_reads 59 rfl) rfl rfl ?_
                  refine g_if_eq (n := 114) (t := 126) hx (dq tX5_reads 60 rfl) (by decide) rfl ⟨by decide, by decide⟩ (fun c_286 => ?_) (fun c_286 => ?_)
                  · omega
                  · refine g_aload_n (n := 115) hx 4 (dq tX5_reads 61 rfl) rfl rfl ?_
                    refine g_getR (n := 118) hx glX5_9 (sX5_0 (by decide)) (dq tX5_reads 62 rfl) rfl ?_
                    refine g_ldcS (n := 120) (q := 27) hx rfl rfl rfl (dq tX5_reads 63 rfl) rfl ?_
                    have e_287 : M_277 7 1 = M_70 7 1 := (f_280 7 1 (by omega))
                    refine g_callVi (n := 123) (As := [sR Γ 27]) (rest := []) hx (ctX7_takesWord2 Γ M_277 27 _ rfl (by decide) t9 n9 y_285a y_285t) mlX5_52 (obX7 (by decide)) (dq tX5_reads 64 rfl) rfl (Nat.le_of_ble_eq_true rfl) (Nat.le_of_ble_eq_true rfl) (Nat.le_of_ble_eq_true rfl) rfl (fun z_288 M_289 h_290 p_291 => ?_)
                    obtain ⟨f_292, h_293, h_294, h_295, h_296⟩ := p_291
                    refine g_if_eq (n := 126) (t := 130) hx (dq tX5_reads 65 rfl) (by decide) rfl h_290 (fun c_297 => ?_) (fun c_297 => ?_)
                    · have g_298 : Tc M_289 t9 n9 y_285a := by have q := h_296; rw [if_pos (by omega)] at q; exact q
                      refine g_iconst (n := 131) hx (dq tX5_reads 68 rfl) rfl ?_
                      refine g_istore (n := 133) (lv' := [(6, vI 0), (5, vI 1), (4, vI z_69), (3, vI z_49), (2, vI i_32), (0, aR Γ 18), (1, aR Γ g)]) hx (dq tX5_reads 69 rfl) (by decide) rfl rfl ?_
                      refine g_iload (n := 135) hx 0 (dq tX5_reads 70 rfl) rfl rfl ?_
                      refine g_if_eq (n := 138) (t := 149) hx (dq tX5_reads 71 rfl) (by decide) rfl ⟨by decide, by decide⟩ (fun c_299 => ?_) (fun c_299 => ?_)
                      · have e_300 : M_289 7 1 = M_277 7 1 := (f_292 7 1 (by omega))
                        have e_301 : M_289 18 1 = M_277 18 1 := (f_292 18 1 (by omega))
                        have g_302a : (M_289 7 2).toNat = y_285a := by have w1 := Tc.at g_298; omega
                        have g_302c : M_289 18 1 = y_285c := by omega
                        have g_302 : Tc M_289 t9 n9 (M_289 7 2).toNat := by rw [g_302a]; exact g_298
                        have g_302r : Rc t9 n9 i_32 ((M_33 7 2).toNat, M_33 18 1) = .ok ((M_289 7 2).toNat, M_289 18 1) := by rw [g_302a, g_302c]; exact (Eq.trans (Rc_ok rfl (by omega) (by omega) ((Rs_sum (by omega) (by omega)).trans y_285e)) (Rt_n (by omega) (wR27n (Tc.le y_285t) (by omega))))
                        exact J_81 0 1 M_289 (by omega) (by omega) (by omega) (by omega) (fun u_ v_ huv_ => ((f_292 u_ v_ ⟨huv_.1, huv_.2.1, huv_.2.2.1⟩).trans (f_280 u_ v_ ⟨huv_.1, huv_.2.1, huv_.2.2.1, huv_.2.2.2.1, huv_.2.2.2.2.1, huv_.2.2.2.2.2.1, huv_.2.2.2.2.2.2.1, huv_.2.2.2.2.2.2.2.1, huv_.2.2.2.2.2.2.2.2⟩))) g_302 (by first | assumption | omega)
                      · omega
                    · have g_303 : Tc M_289 t9 n9 (nx t9 n9 y_285a) := by have q := h_296; rw [if_neg (by omega)] at q; exact q
                      refine g_iconst (n := 127) hx (dq tX5_reads 66 rfl) rfl ?_
                      refine g_goto (n := 131) hx (dq tX5_reads 67 rfl) (by decide) ?_
                      refine g_istore (n := 133) (lv' := [(6, vI 1), (5, vI 1), (4, vI z_69), (3, vI z_49), (2, vI i_32), (0, aR Γ 18), (1, aR Γ g)]) hx (dq tX5_reads 69 rfl) (by decide) rfl rfl ?_
                      refine g_iload (n := 135) hx 0 (dq tX5_reads 70 rfl) rfl rfl ?_
                      refine g_if_eq (n := 138) (t := 149) hx (dq tX5_reads 71 rfl) (by decide) rfl ⟨by decide, by decide⟩ (fun c_304 => ?_) (fun c_304 => ?_)
                      · omega
                      · refine g_aload_n (n := 139) hx 5 (dq tX5_reads 72 rfl) rfl rfl ?_
                        refine g_aload_n (n := 140) hx 6 (dq tX5_reads 73 rfl) rfl rfl ?_
                        refine g_iconst (n := 141) hx (dq tX5_reads 74 rfl) rfl ?_
                        have e_305 : M_289 7 1 = M_277 7 1 := (f_292 7 1 (by omega))
                        have e_306 : M_289 18 1 = M_277 18 1 := (f_292 18 1 (by omega))
                        refine g_callVi (n := 144) (As := [aR Γ g, vI 0]) (rest := []) hx (ctX5_readsTest2 Γ M_289 g hg 0 (by decide) (by decide) t9 n9 (nx t9 n9 y_285a) g_303) mlX5_56 (obX5 (by decide)) (dq tX5_reads 75 rfl) rfl (Nat.le_of_ble_eq_true rfl) (Nat.le_of_ble_eq_true rfl) (Nat.le_of_ble_eq_true rfl) rfl (fun z_307 M_308 h_309 p_310 => ?_)
                        obtain ⟨f_311, h_312, h_313, h_314⟩ := p_310
                        refine g_if_ne (n := 147) (t := 149) hx (dq tX5_reads 76 rfl) (by decide) rfl h_309 (fun c_315 => ?_) (fun c_315 => ?_)
                        · obtain ⟨y_316a, y_316c, y_316e, y_316t, y_316k⟩ := Rz.yes h_314 (by omega)
                          have e_317 : M_308 7 1 = M_289 7 1 := (f_311 7 1 (by omega))
                          have g_318a : (M_308 7 2).toNat = y_316a := by have w1 := Tc.at y_316t; omega
                          have g_318c : M_308 18 1 = y_316c := by omega
                          have g_318 : Tc M_308 t9 n9 (M_308 7 2).toNat := by rw [g_318a]; exact y_316t
                          have g_318r : Rc t9 n9 i_32 ((M_33 7 2).toNat, M_33 18 1) = .ok ((M_308 7 2).toNat, M_308 18 1) := by rw [g_318a, g_318c]; exact (Eq.trans (Eq.trans (Rc_ok rfl (by omega) (by omega) ((Rs_sum (by omega) (by omega)).trans y_285e)) (Rt_i (by omega) (wR27i (Tc.le y_285t) (by omega)) (by omega))) y_316e)
                          exact J_81 1 1 M_308 (by omega) (by omega) (by omega) (by omega) (fun u_ v_ huv_ => (((f_311 u_ v_ ⟨huv_.1, huv_.2.1, huv_.2.2.1, huv_.2.2.2.1, huv_.2.2.2.2.1, huv_.2.2.2.2.2.1, huv_.2.2.2.2.2.2.1, huv_.2.2.2.2.2.2.2.1, huv_.2.2.2.2.2.2.2.2⟩).trans (f_292 u_ v_ ⟨huv_.1, huv_.2.1, huv_.2.2.1⟩)).trans (f_280 u_ v_ ⟨huv_.1, huv_.2.1, huv_.2.2.1, huv_.2.2.2.1, huv_.2.2.2.2.1, huv_.2.2.2.2.2.1, huv_.2.2.2.2.2.2.1, huv_.2.2.2.2.2.2.2.1, huv_.2.2.2.2.2.2.2.2⟩))) g_318 (by first | assumption | omega)
                        · refine g_iconst (n := 148) hx (dq tX5_reads 77 rfl) rfl ?_
                          have e_319 : M_308 7 1 = M_289 7 1 := (f_311 7 1 (by omega))
                          exact g_zret hx hr (dq tX5_reads 78 rfl) (by omega) ⟨(fun u_ v_ huv_ => (((((((((f_311 u_ v_ ⟨huv_.1, huv_.2.1, huv_.2.2.1, huv_.2.2.2.1, huv_.2.2.2.2.1, huv_.2.2.2.2.2.1, huv_.2.2.2.2.2.2.1, huv_.2.2.2.2.2.2.2.1, huv_.2.2.2.2.2.2.2.2⟩).trans (f_292 u_ v_ ⟨huv_.1, huv_.2.1, huv_.2.2.1⟩)).trans (f_280 u_ v_ ⟨huv_.1, huv_.2.1, huv_.2.2.1, huv_.2.2.2.1, huv_.2.2.2.2.1, huv_.2.2.2.2.2.1, huv_.2.2.2.2.2.2.1, huv_.2.2.2.2.2.2.2.1, huv_.2.2.2.2.2.2.2.2⟩)).trans (f_73 u_ v_ ⟨huv_.2.2.2.2.2.1, huv_.2.2.2.2.2.2.1, huv_.2.2.2.2.2.2.2.1, huv_.2.2.2.2.2.2.2.2⟩)).trans (f_63 u_ v_ ⟨huv_.1, huv_.2.1, huv_.2.2.1⟩)).trans (f_36 u_ v_ ⟨huv_.1, huv_.2.1, huv_.2.2.1, huv_.2.2.2.2.2.1, huv_.2.2.2.2.2.2.1, huv_.2.2.2.2.2.2.2.1, huv_.2.2.2.2.2.2.2.2, huv_.2.2.2.1, huv_.2.2.2.2.1⟩)).trans (f_21 u_ v_ ⟨huv_.1, huv_.2.1, huv_.2.2.1, huv_.2.2.2.1⟩)).trans (m_12 u_ v_ huv_.2.2.2.2.1)).trans (f_5 u_ v_ ⟨huv_.2.2.2.2.2.1, huv_.2.2.2.2.2.2.1, huv_.2.2.2.2.2.2.2.1, huv_.2.2.2.2.2.2.2.2⟩))), (by omega), (by omega), (Or.inl ⟨by omega, Rl_er (f := (12 - i_32).toNat) h_39 (by omega) (Eq.trans (Rc_ok rfl (by omega) (by omega) ((Rs_sum (by omega) (by omega)).trans y_285e)) (Eq.trans (Rt_i (by omega) (wR27i (Tc.le y_285t) (by omega)) (by omega)) (Rz.no h_314 (by omega))))⟩)⟩
                · refine g_iconst (n := 108) hx (dq tX5_reads 57 rfl) rfl ?_
                  have e_320 : M_277 7 1 = M_70 7 1 := (f_280 7 1 (by omega))
                  exact g_zret hx hr (dq tX5_reads 58 rfl) (by omega) ⟨(fun u_ v_ huv_ => (((((((f_280 u_ v_ ⟨huv_.1, huv_.2.1, huv_.2.2.1, huv_.2.2.2.1, huv_.2.2.2.2.1, huv_.2.2.2.2.2.1, huv_.2.2.2.2.2.2.1, huv_.2.2.2.2.2.2.2.1, huv_.2.2.2.2.2.2.2.2⟩).trans (f_73 u_ v_ ⟨huv_.2.2.2.2.2.1, huv_.2.2.2.2.2.2.1, huv_.2.2.2.2.2.2.2.1, huv_.2.2.2.2.2.2.2.2⟩)).trans (f_63 u_ v_ ⟨huv_.1, huv_.2.1, huv_.2.2.1⟩)).trans (f_36 u_ v_ ⟨huv_.1, huv_.2.1, huv_.2.2.1, huv_.2.2.2.2.2.1, huv_.2.2.2.2.2.2.1, huv_.2.2.2.2.2.2.2.1, huv_.2.2.2.2.2.2.2.2, huv_.2.2.2.1, huv_.2.2.2.2.1⟩)).trans (f_21 u_ v_ ⟨huv_.1, huv_.2.1, huv_.2.2.1, huv_.2.2.2.1⟩)).trans (m_12 u_ v_ huv_.2.2.2.2.1)).trans (f_5 u_ v_ ⟨huv_.2.2.2.2.2.1, huv_.2.2.2.2.2.2.1, huv_.2.2.2.2.2.2.2.1, huv_.2.2.2.2.2.2.2.2⟩))), (by omega), (by omega), (Or.inl ⟨by omega, Rl_er (f := (12 - i_32).toNat) h_39 (by omega) (Rc_er rfl (by omega) (by omega) (Eq.trans (Rs_sum (by omega) (by omega)) (Rz.no h_283 (by omega))))⟩)⟩
            · refine g_iload_n (n := 83) hx 1 (dq tX5_reads 44 rfl) rfl rfl ?_
              refine g_iconst (n := 84) hx (dq tX5_reads 45 rfl) rfl ?_
              refine g_icmp_ne (n := 87) (t := 91) hx (dq tX5_reads 46 rfl) (by decide) rfl h_51 ⟨by decide, by decide⟩ (fun c_321 => ?_) (fun c_321 => ?_)
              · refine g_iconst (n := 92) hx (dq tX5_reads 49 rfl) rfl ?_
                refine g_istore (n := 94) (lv' := [(5, vI 0), (4, vI z_69), (3, vI z_49), (2, vI i_32), (0, aR Γ 18), (1, aR Γ g)]) hx (dq tX5_reads 50 rfl) (by decide) rfl rfl ?_
                refine g_iload (n := 96) hx 0 (dq tX5_reads 51 rfl) rfl rfl ?_
                refine g_if_eq (n := 99) (t := 109) hx (dq tX5_reads 52 rfl) (by decide) rfl ⟨by decide, by decide⟩ (fun c_322 => ?_) (fun c_322 => ?_)
                · refine g_iload (n := 111) hx 0 (dq tX5_reads 59 rfl) rfl rfl ?_
                  refine g_if_eq (n := 114) (t := 126) hx (dq tX5_reads 60 rfl) (by decide) rfl ⟨by decide, by decide⟩ (fun c_323 => ?_) (fun c_323 => ?_)
                  · refine g_iconst (n := 127) hx (dq tX5_reads 66 rfl) rfl ?_
                    refine g_goto (n := 131) hx (dq tX5_reads 67 rfl) (by decide) ?_
                    refine g_istore (n := 133) (lv' := [(6, vI 1), (5, vI 0), (4, vI z_69), (3, vI z_49), (2, vI i_32), (0, aR Γ 18), (1, aR Γ g)]) hx (dq tX5_reads 69 rfl) (by decide) rfl rfl ?_
                    refine g_iload (n := 135) hx 0 (dq tX5_reads 70 rfl) rfl rfl ?_
                    refine g_if_eq (n := 138) (t := 149) hx (dq tX5_reads 71 rfl) (by decide) rfl ⟨by decide, by decide⟩ (fun c_324 => ?_) (fun c_324 => ?_)
                    · omega
                    · refine g_aload_n (n := 139) hx 5 (dq tX5_reads 72 rfl) rfl rfl ?_
                      refine g_aload_n (n := 140) hx 6 (dq tX5_reads 73 rfl) rfl rfl ?_
                      refine g_iconst (n := 141) hx (dq tX5_reads 74 rfl) rfl ?_
                      have e_325 : M_70 7 1 = M_60 7 1 := (f_73 7 1 (by omega))
                      have e_326 : M_70 7 2 = M_60 7 2 := (f_73 7 2 (by omega))
                      have e_327 : M_70 7 3 = M_60 7 3 := (f_73 7 3 (by omega))
                      have e_328 : M_70 7 4 = M_60 7 4 := (f_73 7 4 (by omega))
                      have e_329 : M_70 18 1 = M_60 18 1 := (f_73 18 1 (by omega))
                      refine g_callVi (n := 144) (As := [aR Γ g, vI 0]) (rest := []) hx (ctX5_readsTest2 Γ M_70 g hg 0 (by decide) (by decide) t9 n9 (nx t9 n9 ((M_33 7 2).toNat)) g_74) mlX5_56 (obX5 (by decide)) (dq tX5_reads 75 rfl) rfl (Nat.le_of_ble_eq_true rfl) (Nat.le_of_ble_eq_true rfl) (Nat.le_of_ble_eq_true rfl) rfl (fun z_330 M_331 h_332 p_333 => ?_)
                      obtain ⟨f_334, h_335, h_336, h_337⟩ := p_333
                      refine g_if_ne (n := 147) (t := 149) hx (dq tX5_reads 76 rfl) (by decide) rfl h_332 (fun c_338 => ?_) (fun c_338 => ?_)
                      · obtain ⟨y_339a, y_339c, y_339e, y_339t, y_339k⟩ := Rz.yes h_337 (by omega)
                        have e_340 : M_331 7 1 = M_70 7 1 := (f_334 7 1 (by omega))
                        have g_341a : (M_331 7 2).toNat = y_339a := by have w1 := Tc.at y_339t; omega
                        have g_341c : M_331 18 1 = y_339c := by omega
                        have g_341 : Tc M_331 t9 n9 (M_331 7 2).toNat := by rw [g_341a]; exact y_339t
                        have g_341r : Rc t9 n9 i_32 ((M_33 7 2).toNat, M_33 18 1) = .ok ((M_331 7 2).toNat, M_331 18 1) := by rw [g_341a, g_341c]; exact (Eq.trans (Eq.trans (Rc_ok rfl (by omega) (by omega) (Rs_test (by omega))) (Rt_t (by omega) (by omega))) y_339e)
                        exact J_81 1 0 M_331 (by omega) (by omega) (by omega) (by omega) (fun u_ v_ huv_ => (f_334 u_ v_ ⟨huv_.1, huv_.2.1, huv_.2.2.1, huv_.2.2.2.1, huv_.2.2.2.2.1, huv_.2.2.2.2.2.1, huv_.2.2.2.2.2.2.1, huv_.2.2.2.2.2.2.2.1, huv_.2.2.2.2.2.2.2.2⟩)) g_341 (by first | assumption | omega)
                      · refine g_iconst (n := 148) hx (dq tX5_reads 77 rfl) rfl ?_
                        have e_342 : M_331 7 1 = M_70 7 1 := (f_334 7 1 (by omega))
                        exact g_zret hx hr (dq tX5_reads 78 rfl) (by omega) ⟨(fun u_ v_ huv_ => (((((((f_334 u_ v_ ⟨huv_.1, huv_.2.1, huv_.2.2.1, huv_.2.2.2.1, huv_.2.2.2.2.1, huv_.2.2.2.2.2.1, huv_.2.2.2.2.2.2.1, huv_.2.2.2.2.2.2.2.1, huv_.2.2.2.2.2.2.2.2⟩).trans (f_73 u_ v_ ⟨huv_.2.2.2.2.2.1, huv_.2.2.2.2.2.2.1, huv_.2.2.2.2.2.2.2.1, huv_.2.2.2.2.2.2.2.2⟩)).trans (f_63 u_ v_ ⟨huv_.1, huv_.2.1, huv_.2.2.1⟩)).trans (f_36 u_ v_ ⟨huv_.1, huv_.2.1, huv_.2.2.1, huv_.2.2.2.2.2.1, huv_.2.2.2.2.2.2.1, huv_.2.2.2.2.2.2.2.1, huv_.2.2.2.2.2.2.2.2, huv_.2.2.2.1, huv_.2.2.2.2.1⟩)).trans (f_21 u_ v_ ⟨huv_.1, huv_.2.1, huv_.2.2.1, huv_.2.2.2.1⟩)).trans (m_12 u_ v_ huv_.2.2.2.2.1)).trans (f_5 u_ v_ ⟨huv_.2.2.2.2.2.1, huv_.2.2.2.2.2.2.1, huv_.2.2.2.2.2.2.2.1, huv_.2.2.2.2.2.2.2.2⟩))), (by omega), (by omega), (Or.inl ⟨by omega, Rl_er (f := (12 - i_32).toNat) h_39 (by omega) (Eq.trans (Rc_ok rfl (by omega) (by omega) (Rs_test (by omega))) (Eq.trans (Rt_t (by omega) (by omega)) (Rz.no h_337 (by omega))))⟩)⟩
                  · omega
                · omega
              · refine g_iconst (n := 88) hx (dq tX5_reads 47 rfl) rfl ?_
                refine g_goto (n := 92) hx (dq tX5_reads 48 rfl) (by decide) ?_
                refine g_istore (n := 94) (lv' := [(5, vI 1), (4, vI z_69), (3, vI z_49), (2, vI i_32), (0, aR Γ 18), (1, aR Γ g)]) hx (dq tX5_reads 50 rfl) (by decide) rfl rfl ?_
                refine g_iload (n := 96) hx 0 (dq tX5_reads 51 rfl) rfl rfl ?_
                refine g_if_eq (n := 99) (t := 109) hx (dq tX5_reads 52 rfl) (by decide) rfl ⟨by decide, by decide⟩ (fun c_343 => ?_) (fun c_343 => ?_)
                · omega
                · refine g_aload_n (n := 100) hx 4 (dq tX5_reads 53 rfl) rfl rfl ?_
                  refine g_aload_n (n := 101) hx 5 (dq tX5_reads 54 rfl) rfl rfl ?_
                  have e_344 : M_70 7 1 = M_60 7 1 := (f_73 7 1 (by omega))
                  have e_345 : M_70 7 2 = M_60 7 2 := (f_73 7 2 (by omega))
                  have e_346 : M_70 7 3 = M_60 7 3 := (f_73 7 3 (by omega))
                  have e_347 : M_70 7 4 = M_60 7 4 := (f_73 7 4 (by omega))
                  have e_348 : M_70 18 1 = M_60 18 1 := (f_73 18 1 (by omega))
                  refine g_callVi (n := 104) (As := [aR Γ g]) (rest := []) hx (ctX5_readsSum2 Γ M_70 g hg t9 n9 (nx t9 n9 ((M_33 7 2).toNat)) g_74) mlX5_46 (obX5 (by decide)) (dq tX5_reads 55 rfl) rfl (Nat.le_of_ble_eq_true rfl) (Nat.le_of_ble_eq_true rfl) (Nat.le_of_ble_eq_true rfl) rfl (fun z_349 M_350 h_351 p_352 => ?_)
                  obtain ⟨f_353, h_354, h_355, h_356⟩ := p_352
                  refine g_if_ne (n := 107) (t := 109) hx (dq tX5_reads 56 rfl) (by decide) rfl h_351 (fun c_357 => ?_) (fun c_357 => ?_)
                  · obtain ⟨y_358a, y_358c, y_358e, y_358t, y_358k⟩ := Rz.yes h_356 (by omega)
                    refine g_iload (n := 111) hx 0 (dq tX5_reads 59 rfl) rfl rfl ?_
                    refine g_if_eq (n := 114) (t := 126) hx (dq tX5_reads 60 rfl) (by decide) rfl ⟨by decide, by decide⟩ (fun c_359 => ?_) (fun c_359 => ?_)
                    · omega
                    · refine g_aload_n (n := 115) hx 4 (dq tX5_reads 61 rfl) rfl rfl ?_
                      refine g_getR (n := 118) hx glX5_9 (sX5_0 (by decide)) (dq tX5_reads 62 rfl) rfl ?_
                      refine g_ldcS (n := 120) (q := 27) hx rfl rfl rfl (dq tX5_reads 63 rfl) rfl ?_
                      have e_360 : M_350 7 1 = M_70 7 1 := (f_353 7 1 (by omega))
                      refine g_callVi (n := 123) (As := [sR Γ 27]) (rest := []) hx (ctX7_takesWord2 Γ M_350 27 _ rfl (by decide) t9 n9 y_358a y_358t) mlX5_52 (obX7 (by decide)) (dq tX5_reads 64 rfl) rfl (Nat.le_of_ble_eq_true rfl) (Nat.le_of_ble_eq_true rfl) (Nat.le_of_ble_eq_true rfl) rfl (fun z_361 M_362 h_363 p_364 => ?_)
                      obtain ⟨f_365, h_366, h_367, h_368, h_369⟩ := p_364
                      refine g_if_eq (n := 126) (t := 130) hx (dq tX5_reads 65 rfl) (by decide) rfl h_363 (fun c_370 => ?_) (fun c_370 => ?_)
                      · have g_371 : Tc M_362 t9 n9 y_358a := by have q := h_369; rw [if_pos (by omega)] at q; exact q
                        refine g_iconst (n := 131) hx (dq tX5_reads 68 rfl) rfl ?_
                        refine g_istore (n := 133) (lv' := [(6, vI 0), (5, vI 1), (4, vI z_69), (3, vI z_49), (2, vI i_32), (0, aR Γ 18), (1, aR Γ g)]) hx (dq tX5_reads 69 rfl) (by decide) rfl rfl ?_
                        refine g_iload (n := 135) hx 0 (dq tX5_reads 70 rfl) rfl rfl ?_
                        refine g_if_eq (n := 138) (t := 149) hx (dq tX5_reads 71 rfl) (by decide) rfl ⟨by decide, by decide⟩ (fun c_372 => ?_) (fun c_372 => ?_)
                        · have e_373 : M_362 7 1 = M_350 7 1 := (f_365 7 1 (by omega))
                          have e_374 : M_362 18 1 = M_350 18 1 := (f_365 18 1 (by omega))
                          have g_375a : (M_362 7 2).toNat = y_358a := by have w1 := Tc.at g_371; omega
                          have g_375c : M_362 18 1 = y_358c := by omega
                          have g_375 : Tc M_362 t9 n9 (M_362 7 2).toNat := by rw [g_375a]; exact g_371
                          have g_375r : Rc t9 n9 i_32 ((M_33 7 2).toNat, M_33 18 1) = .ok ((M_362 7 2).toNat, M_362 18 1) := by rw [g_375a, g_375c]; exact (Eq.trans (Rc_ok rfl (by omega) (by omega) ((Rs_sum (by omega) (by omega)).trans y_358e)) (Rt_n (by omega) (wR27n (Tc.le y_358t) (by omega))))
                          exact J_81 0 1 M_362 (by omega) (by omega) (by omega) (by omega) (fun u_ v_ huv_ => ((f_365 u_ v_ ⟨huv_.1, huv_.2.1, huv_.2.2.1⟩).trans (f_353 u_ v_ ⟨huv_.1, huv_.2.1, huv_.2.2.1, huv_.2.2.2.1, huv_.2.2.2.2.1, huv_.2.2.2.2.2.1, huv_.2.2.2.2.2.2.1, huv_.2.2.2.2.2.2.2.1, huv_.2.2.2.2.2.2.2.2⟩))) g_375 (by first | assumption | omega)
                        · omega
                      · have g_376 : Tc M_362 t9 n9 (nx t9 n9 y_358a) := by have q := h_369; rw [if_neg (by omega)] at q; exact q
                        refine g_iconst (n := 127) hx (dq tX5_reads 66 rfl) rfl ?_
                        refine g_goto (n := 131) hx (dq tX5_reads 67 rfl) (by decide) ?_
                        refine g_istore (n := 133) (lv' := [(6, vI 1), (5, vI 1), (4, vI z_69), (3, vI z_49), (2, vI i_32), (0, aR Γ 18), (1, aR Γ g)]) hx (dq tX5_reads 69 rfl) (by decide) rfl rfl ?_
                        refine g_iload (n := 135) hx 0 (dq tX5_reads 70 rfl) rfl rfl ?_
                        refine g_if_eq (n := 138) (t := 149) hx (dq tX5_reads 71 rfl) (by decide) rfl ⟨by decide, by decide⟩ (fun c_377 => ?_) (fun c_377 => ?_)
                        · omega
                        · refine g_aload_n (n := 139) hx 5 (dq tX5_reads 72 rfl) rfl rfl ?_
                          refine g_aload_n (n := 140) hx 6 (dq tX5_reads 73 rfl) rfl rfl ?_
                          refine g_iconst (n := 141) hx (dq tX5_reads 74 rfl) rfl ?_
                          have e_378 : M_362 7 1 = M_350 7 1 := (f_365 7 1 (by omega))
                          have e_379 : M_362 18 1 = M_350 18 1 := (f_365 18 1 (by omega))
                          refine g_callVi (n := 144) (As := [aR Γ g, vI 0]) (rest := []) hx (ctX5_readsTest2 Γ M_362 g hg 0 (by decide) (by decide) t9 n9 (nx t9 n9 y_358a) g_376) mlX5_56 (obX5 (by decide)) (dq tX5_reads 75 rfl) rfl (Nat.le_of_ble_eq_true rfl) (Nat.le_of_ble_eq_true rfl) (Nat.le_of_ble_eq_true rfl) rfl (fun z_380 M_381 h_382 p_383 => ?_)
                          obtain ⟨f_384, h_385, h_386, h_387⟩ := p_383
                          refine g_if_ne (n := 147) (t := 149) hx (dq tX5_reads 76 rfl) (by decide) rfl h_382 (fun c_388 => ?_) (fun c_388 => ?_)
                          · obtain ⟨y_389a, y_389c, y_389e, y_389t, y_389k⟩ := Rz.yes h_387 (by omega)
                            have e_390 : M_381 7 1 = M_362 7 1 := (f_384 7 1 (by omega))
                            have g_391a : (M_381 7 2).toNat = y_389a := by have w1 := Tc.at y_389t; omega
                            have g_391c : M_381 18 1 = y_389c := by omega
                            have g_391 : Tc M_381 t9 n9 (M_381 7 2).toNat := by rw [g_391a]; exact y_389t
                            have g_391r : Rc t9 n9 i_32 ((M_33 7 2).toNat, M_33 18 1) = .ok ((M_381 7 2).toNat, M_381 18 1) := by rw [g_391a, g_391c]; exact (Eq.trans (Eq.trans (Rc_ok rfl (by omega) (by omega) ((Rs_sum (by omega) (by omega)).trans y_358e)) (Rt_i (by omega) (wR27i (Tc.le y_358t) (by omega)) (by omega))) y_389e)
                            exact J_81 1 1 M_381 (by omega) (by omega) (by omega) (by omega) (fun u_ v_ huv_ => (((f_384 u_ v_ ⟨huv_.1, huv_.2.1, huv_.2.2.1, huv_.2.2.2.1, huv_.2.2.2.2.1, huv_.2.2.2.2.2.1, huv_.2.2.2.2.2.2.1, huv_.2.2.2.2.2.2.2.1, huv_.2.2.2.2.2.2.2.2⟩).trans (f_365 u_ v_ ⟨huv_.1, huv_.2.1, huv_.2.2.1⟩)).trans (f_353 u_ v_ ⟨huv_.1, huv_.2.1, huv_.2.2.1, huv_.2.2.2.1, huv_.2.2.2.2.1, huv_.2.2.2.2.2.1, huv_.2.2.2.2.2.2.1, huv_.2.2.2.2.2.2.2.1, huv_.2.2.2.2.2.2.2.2⟩))) g_391 (by first | assumption | omega)
                          · refine g_iconst (n := 148) hx (dq tX5_reads 77 rfl) rfl ?_
                            have e_392 : M_381 7 1 = M_362 7 1 := (f_384 7 1 (by omega))
                            exact g_zret hx hr (dq tX5_reads 78 rfl) (by omega) ⟨(fun u_ v_ huv_ => (((((((((f_384 u_ v_ ⟨huv_.1, huv_.2.1, huv_.2.2.1, huv_.2.2.2.1, huv_.2.2.2.2.1, huv_.2.2.2.2.2.1, huv_.2.2.2.2.2.2.1, huv_.2.2.2.2.2.2.2.1, huv_.2.2.2.2.2.2.2.2⟩).trans (f_365 u_ v_ ⟨huv_.1, huv_.2.1, huv_.2.2.1⟩)).trans (f_353 u_ v_ ⟨huv_.1, huv_.2.1, huv_.2.2.1, huv_.2.2.2.1, huv_.2.2.2.2.1, huv_.2.2.2.2.2.1, huv_.2.2.2.2.2.2.1, huv_.2.2.2.2.2.2.2.1, huv_.2.2.2.2.2.2.2.2⟩)).trans (f_73 u_ v_ ⟨huv_.2.2.2.2.2.1, huv_.2.2.2.2.2.2.1, huv_.2.2.2.2.2.2.2.1, huv_.2.2.2.2.2.2.2.2⟩)).trans (f_63 u_ v_ ⟨huv_.1, huv_.2.1, huv_.2.2.1⟩)).trans (f_36 u_ v_ ⟨huv_.1, huv_.2.1, huv_.2.2.1, huv_.2.2.2.2.2.1, huv_.2.2.2.2.2.2.1, huv_.2.2.2.2.2.2.2.1, huv_.2.2.2.2.2.2.2.2, huv_.2.2.2.1, huv_.2.2.2.2.1⟩)).trans (f_21 u_ v_ ⟨huv_.1, huv_.2.1, huv_.2.2.1, huv_.2.2.2.1⟩)).trans (m_12 u_ v_ huv_.2.2.2.2.1)).trans (f_5 u_ v_ ⟨huv_.2.2.2.2.2.1, huv_.2.2.2.2.2.2.1, huv_.2.2.2.2.2.2.2.1, huv_.2.2.2.2.2.2.2.2⟩))), (by omega), (by omega), (Or.inl ⟨by omega, Rl_er (f := (12 - i_32).toNat) h_39 (by omega) (Eq.trans (Rc_ok rfl (by omega) (by omega) ((Rs_sum (by omega) (by omega)).trans y_358e)) (Eq.trans (Rt_i (by omega) (wR27i (Tc.le y_358t) (by omega)) (by omega)) (Rz.no h_387 (by omega))))⟩)⟩
                  · refine g_iconst (n := 108) hx (dq tX5_reads 57 rfl) rfl ?_
                    have e_393 : M_350 7 1 = M_70 7 1 := (f_353 7 1 (by omega))
                    exact g_zret hx hr (dq tX5_reads 58 rfl) (by omega) ⟨(fun u_ v_ huv_ => (((((((f_353 u_ v_ ⟨huv_.1, huv_.2.1, huv_.2.2.1, huv_.2.2.2.1, huv_.2.2.2.2.1, huv_.2.2.2.2.2.1, huv_.2.2.2.2.2.2.1, huv_.2.2.2.2.2.2.2.1, huv_.2.2.2.2.2.2.2.2⟩).trans (f_73 u_ v_ ⟨huv_.2.2.2.2.2.1, huv_.2.2.2.2.2.2.1, huv_.2.2.2.2.2.2.2.1, huv_.2.2.2.2.2.2.2.2⟩)).trans (f_63 u_ v_ ⟨huv_.1, huv_.2.1, huv_.2.2.1⟩)).trans (f_36 u_ v_ ⟨huv_.1, huv_.2.1, huv_.2.2.1, huv_.2.2.2.2.2.1, huv_.2.2.2.2.2.2.1, huv_.2.2.2.2.2.2.2.1, huv_.2.2.2.2.2.2.2.2, huv_.2.2.2.1, huv_.2.2.2.2.1⟩)).trans (f_21 u_ v_ ⟨huv_.1, huv_.2.1, huv_.2.2.1, huv_.2.2.2.1⟩)).trans (m_12 u_ v_ huv_.2.2.2.2.1)).trans (f_5 u_ v_ ⟨huv_.2.2.2.2.2.1, huv_.2.2.2.2.2.2.1, huv_.2.2.2.2.2.2.2.1, huv_.2.2.2.2.2.2.2.2⟩))), (by omega), (by omega), (Or.inl ⟨by omega, Rl_er (f := (12 - i_32).toNat) h_39 (by omega) (Rc_er rfl (by omega) (by omega) (Eq.trans (Rs_sum (by omega) (by omega)) (Rz.no h_356 (by omega))))⟩)⟩
          · refine g_aload_n (n := 55) hx 2 (dq tX5_reads 29 rfl) rfl rfl ?_
            refine g_getR (n := 58) hx glX5_9 (sX5_0 (by decide)) (dq tX5_reads 30 rfl) rfl ?_
            refine g_iconst (n := 59) hx (dq tX5_reads 31 rfl) rfl ?_
            refine g_callVi (n := 62) (As := [vI 4]) (rest := []) hx (ctX7_fails2 Γ M_33 4 (by decide) (by decide)) mlX5_35 (obX7 (by decide)) (dq tX5_reads 32 rfl) rfl (Nat.le_of_ble_eq_true rfl) (Nat.le_of_ble_eq_true rfl) (Nat.le_of_ble_eq_true rfl) rfl (fun z_394 M_395 h_396 p_397 => ?_)
            obtain ⟨f_398, h_399, h_400, h_401⟩ := p_397
            have g_402 : Tc M_395 t9 n9 ((M_33 7 2).toNat) := Tc.frame h_38 (fun c j hcj => f_398 c j (by omega))
            have e_403 : M_395 7 1 = M_33 7 1 := (f_398 7 1 (by omega))
            have e_404 : M_395 7 2 = M_33 7 2 := (f_398 7 2 (by omega))
            have e_405 : M_395 7 3 = M_33 7 3 := (f_398 7 3 (by omega))
            have e_406 : M_395 7 4 = M_33 7 4 := (f_398 7 4 (by omega))
            have e_407 : M_395 18 1 = M_33 18 1 := (f_398 18 1 (by omega))
            exact g_zret hx hr (dq tX5_reads 33 rfl) (by omega) ⟨(fun u_ v_ huv_ => (((((f_398 u_ v_ huv_.2.2.2.1).trans (f_36 u_ v_ ⟨huv_.1, huv_.2.1, huv_.2.2.1, huv_.2.2.2.2.2.1, huv_.2.2.2.2.2.2.1, huv_.2.2.2.2.2.2.2.1, huv_.2.2.2.2.2.2.2.2, huv_.2.2.2.1, huv_.2.2.2.2.1⟩)).trans (f_21 u_ v_ ⟨huv_.1, huv_.2.1, huv_.2.2.1, huv_.2.2.2.1⟩)).trans (m_12 u_ v_ huv_.2.2.2.2.1)).trans (f_5 u_ v_ ⟨huv_.2.2.2.2.2.1, huv_.2.2.2.2.2.2.1, huv_.2.2.2.2.2.2.2.1, huv_.2.2.2.2.2.2.2.2⟩))), (by omega), (by omega), (Or.inl ⟨by omega, Rl_er (f := (12 - i_32).toNat) h_39 (by omega) (Eq.trans (Rc_12 (by omega) (by omega)) (er_eq (by omega)))⟩)⟩
        · refine g_aload_n (n := 40) hx 2 (dq tX5_reads 21 rfl) rfl rfl ?_
          refine g_getR (n := 43) hx glX5_9 (sX5_0 (by decide)) (dq tX5_reads 22 rfl) rfl ?_
          refine g_iconst (n := 44) hx (dq tX5_reads 23 rfl) rfl ?_
          refine g_callVi (n := 47) (As := [vI 0]) (rest := []) hx (ctX7_fails2 Γ M_33 0 (by decide) (by decide)) mlX5_35 (obX7 (by decide)) (dq tX5_reads 24 rfl) rfl (Nat.le_of_ble_eq_true rfl) (Nat.le_of_ble_eq_true rfl) (Nat.le_of_ble_eq_true rfl) rfl (fun z_408 M_409 h_410 p_411 => ?_)
          obtain ⟨f_412, h_413, h_414, h_415⟩ := p_411
          have g_416 : Tc M_409 t9 n9 ((M_33 7 2).toNat) := Tc.frame h_38 (fun c j hcj => f_412 c j (by omega))
          have e_417 : M_409 7 1 = M_33 7 1 := (f_412 7 1 (by omega))
          have e_418 : M_409 7 2 = M_33 7 2 := (f_412 7 2 (by omega))
          have e_419 : M_409 7 3 = M_33 7 3 := (f_412 7 3 (by omega))
          have e_420 : M_409 7 4 = M_33 7 4 := (f_412 7 4 (by omega))
          have e_421 : M_409 18 1 = M_33 18 1 := (f_412 18 1 (by omega))
          exact g_zret hx hr (dq tX5_reads 25 rfl) (by omega) ⟨(fun u_ v_ huv_ => (((((f_412 u_ v_ huv_.2.2.2.1).trans (f_36 u_ v_ ⟨huv_.1, huv_.2.1, huv_.2.2.1, huv_.2.2.2.2.2.1, huv_.2.2.2.2.2.2.1, huv_.2.2.2.2.2.2.2.1, huv_.2.2.2.2.2.2.2.2, huv_.2.2.2.1, huv_.2.2.2.2.1⟩)).trans (f_21 u_ v_ ⟨huv_.1, huv_.2.1, huv_.2.2.1, huv_.2.2.2.1⟩)).trans (m_12 u_ v_ huv_.2.2.2.2.1)).trans (f_5 u_ v_ ⟨huv_.2.2.2.2.2.1, huv_.2.2.2.2.2.2.1, huv_.2.2.2.2.2.2.2.1, huv_.2.2.2.2.2.2.2.2⟩))), (by omega), (by omega), (Or.inl ⟨by omega, Rl_er (f := (12 - i_32).toNat) h_39 (by omega) (Eq.trans (Rc_k (by omega)) (er_eq (by omega)))⟩)⟩
  exact L_34 _ 0 M_18 (by omega) (by omega) (fun _ _ _ => rfl) (by rw [show (M_18 7 2).toNat = sk t9 n9 0 by omega]; exact h_23) (by rw [show (M_18 7 2).toNat = sk t9 n9 0 by omega, show M_18 18 1 = 0 by omega]; rfl) rfl
