abbrev qctX7_pass2 (M : zM) (t9 : Nat → Int) (n9 : Nat) (s9 : Nat) (M' : zM) : Prop := (∀ u_ v_, (u_ ≠ 7 ∨ v_ ≠ 2) ∧ (u_ ≠ 7 ∨ v_ ≠ 3) ∧ (u_ ≠ 7 ∨ v_ ≠ 4) → M' u_ v_ = M u_ v_) ∧ Tx M' t9 n9 ∧ (Tc M' t9 n9 (sk t9 n9 s9))
set_option maxHeartbeats 4000000 in
set_option maxRecDepth 100000 in
theorem ctX7_pass2 (Γ : Gam) (M : zM) (t9 : Nat → Int) (n9 : Nat) (s9 : Nat) (pre0 : M 7 3 = s9) (pre1 : s9 ≤ n9) (tx : Tx M t9 n9) : CtV Γ yX7_pass cX7_pass 4 none 0 0 [aR Γ 7] M (qctX7_pass2 M t9 n9 s9) := by
  refine met_v (by decide) (Nat.le_of_ble_eq_true rfl) (fun x hx hr => ?_)
  show G Γ x 4 (QV Γ x (qctX7_pass2 M t9 n9 s9)) M 0 [(0, aR Γ 7)] []
  refine g_iv (fun hI0 => ?_)
  have hI_1 : (0 : Int) ≤ M 7 1 ∧ M 7 1 ≤ 400 := hI0 7 1
  have hI_2 : (0 : Int) ≤ M 7 2 ∧ M 7 2 ≤ 400 := hI0 7 2
  have hI_3 : (0 : Int) ≤ M 7 3 ∧ M 7 3 ≤ 400 := hI0 7 3
  clear hI0
  have hn9 := tx.1
  refine g_aload_n (n := 1) hx 0 (dq tX7_pass 0 rfl) rfl rfl ?_
  refine g_aload_n (n := 2) hx 0 (dq tX7_pass 1 rfl) rfl rfl ?_
  refine g_getI (n := 5) hx glX7_22 (sX7_3 (by decide)) (dq tX7_pass 2 rfl) rfl (fun h_1l h_1u => ?_)
  refine g_putI (n := 8) hx plX7_28 (sX7_2 (by decide)) (dq tX7_pass 3 rfl) rfl (by omega) (by omega) (fun M_2 m_3e m_3 => ?_)
  have g_4 : Tx M_2 t9 n9 := Tx.frame tx (fun c j hcj => m_3 c j (by omega))
  have L_6 : ∀ (n_ : Nat) (M_5 : zM), (∀ u_ v_, (u_ ≠ 7 ∨ v_ ≠ 2) → M_5 u_ v_ = M_2 u_ v_) → (Tx M_5 t9 n9) → (wh t9 n9 32 32 (M_5 7 2).toNat = wh t9 n9 32 32 s9) → ((s9 : Int) ≤ M_5 7 2) → (M_5 7 2 ≤ n9) → ((400 - M_5 7 2).toNat = n_) → G Γ x 4 (QV Γ x (qctX7_pass2 M t9 n9 s9)) M_5 8 [(0, aR Γ 7)] [] := by
    intro n_
    induction n_ using Nat.strongRecOn with
    | _ n_ ih_7 =>
      intro M_5 f_8 g_9 h_11 h_12 h_13 hm_10
      refine g_aload_n (n := 9) hx 0 (dq tX7_pass 4 rfl) rfl rfl ?_
      refine g_getI (n := 12) hx glX7_28 (sX7_2 (by decide)) (dq tX7_pass 5 rfl) rfl (fun h_14l h_14u => ?_)
      refine g_aload_n (n := 13) hx 0 (dq tX7_pass 6 rfl) rfl rfl ?_
      refine g_getI (n := 16) hx glX7_15 (sX7_1 (by decide)) (dq tX7_pass 7 rfl) rfl (fun h_15l h_15u => ?_)
      have e_16 : M_5 7 1 = M 7 1 := ((f_8 7 1 (by omega))).trans (m_3 7 1 (by omega))
      refine g_icmp_ge (n := 19) (t := 46) hx (dq tX7_pass 8 rfl) (by decide) rfl (zrI h_14l h_14u (by decide) (by decide)) (zrI h_15l h_15u (by decide) (by decide)) (fun c_17 => ?_) (fun c_17 => ?_)
      · have e_18 : M_5 7 3 = M 7 3 := ((f_8 7 3 (by omega))).trans (m_3 7 3 (by omega))
        have e_19 : M_5 7 4 = M 7 4 := ((f_8 7 4 (by omega))).trans (m_3 7 4 (by omega))
        obtain ⟨a9, ha9⟩ : ∃ a9 : Nat, a9 = (M_5 7 2).toNat := ⟨_, rfl⟩
        have hsk : wh t9 n9 32 32 s9 = a9 := by rw [ha9, ← h_11]; exact wh_stop (by omega)
        have hak : (a9 : Int) = M_5 7 2 := by omega
        refine g_aload_n (n := 47) hx 0 (dq tX7_pass 23 rfl) rfl rfl ?_
        refine g_aload_n (n := 48) hx 0 (dq tX7_pass 24 rfl) rfl rfl ?_
        refine g_getI (n := 51) hx glX7_28 (sX7_2 (by decide)) (dq tX7_pass 25 rfl) rfl (fun h_20l h_20u => ?_)
        refine g_aload_n (n := 52) hx 0 (dq tX7_pass 26 rfl) rfl rfl ?_
        refine g_getI (n := 55) hx glX7_15 (sX7_1 (by decide)) (dq tX7_pass 27 rfl) rfl (fun h_21l h_21u => ?_)
        have J_24 : ∀ (j_23 : Int),  ((-1) ≤ j_23) → (j_23 ≤ 255) → (((a9 < n9 ∧ j_23 = t9 a9) ∨ (n9 ≤ a9 ∧ j_23 = -1))) → G Γ x 4 (QV Γ x (qctX7_pass2 M t9 n9 s9)) M_5 71 [(0, aR Γ 7)] [vI j_23, aR Γ 7] := by
          intro j_23 h_25 h_26 h_27
          refine g_putI (n := 74) hx plX7_31 (sX7_4 (by decide)) (dq tX7_pass 36 rfl) rfl (by omega) (by omega) (fun M_28 m_29e m_29 => ?_)
          have g_30 : Tx M_28 t9 n9 := Tx.frame g_9 (fun c j hcj => m_29 c j (by omega))
          refine g_aload_n (n := 75) hx 0 (dq tX7_pass 37 rfl) rfl rfl ?_
          refine g_aload_n (n := 76) hx 0 (dq tX7_pass 38 rfl) rfl rfl ?_
          refine g_getI (n := 79) hx glX7_28 (sX7_2 (by decide)) (dq tX7_pass 39 rfl) rfl (fun h_31l h_31u => ?_)
          have e_32 : M_28 7 2 = M_5 7 2 := (m_29 7 2 (by omega))
          refine g_aload_n (n := 80) hx 0 (dq tX7_pass 40 rfl) rfl rfl ?_
          refine g_getI (n := 83) hx glX7_15 (sX7_1 (by decide)) (dq tX7_pass 41 rfl) rfl (fun h_33l h_33u => ?_)
          have e_34 : M_28 7 1 = M_5 7 1 := (m_29 7 1 (by omega))
          have J_37 : ∀ (j_36 : Int),  (0 ≤ j_36) → (j_36 ≤ 400) → (((a9 < n9 ∧ j_36 = a9 + 1) ∨ (n9 ≤ a9 ∧ j_36 = n9))) → G Γ x 4 (QV Γ x (qctX7_pass2 M t9 n9 s9)) M_28 99 [(0, aR Γ 7)] [vI j_36, aR Γ 7] := by
            intro j_36 h_38 h_39 h_40
            have e_41 : M_28 7 3 = M_5 7 3 := (m_29 7 3 (by omega))
            refine g_putI (n := 102) hx plX7_22 (sX7_3 (by decide)) (dq tX7_pass 50 rfl) rfl (by omega) (by omega) (fun M_42 m_43e m_43 => ?_)
            have g_44 : Tx M_42 t9 n9 := Tx.frame g_30 (fun c j hcj => m_43 c j (by omega))
            refine g_sipush (n := 105) hx (dq tX7_pass 51 rfl) rfl (by decide) ?_
            refine g_istore_n (n := 106) (lv' := [(1, vI 256), (0, aR Γ 7)]) hx (dq tX7_pass 52 rfl) (by decide) rfl rfl ?_
            refine g_sipush (n := 109) hx (dq tX7_pass 53 rfl) rfl (by decide) ?_
            refine g_istore_n (n := 110) (lv' := [(2, vI 256), (1, vI 256), (0, aR Γ 7)]) hx (dq tX7_pass 54 rfl) (by decide) rfl rfl ?_
            refine g_aload_n (n := 111) hx 2 (dq tX7_pass 55 rfl) rfl rfl ?_
            refine g_getI (n := 114) hx glX7_15 (sX7_1 (by decide)) (dq tX7_pass 56 rfl) rfl (fun h_45l h_45u => ?_)
            have e_46 : M_42 7 1 = M_28 7 1 := (m_43 7 1 (by omega))
            refine g_istore_n (n := 115) (lv' := [(3, vI (M_42 7 1)), (2, vI 256), (1, vI 256), (0, aR Γ 7)]) hx (dq tX7_pass 57 rfl) (by decide) rfl rfl ?_
            refine g_aload_n (n := 116) hx 3 (dq tX7_pass 58 rfl) rfl rfl ?_
            refine g_getI (n := 119) hx glX7_31 (sX7_4 (by decide)) (dq tX7_pass 59 rfl) rfl (fun h_47l h_47u => ?_)
            have e_48 : M_42 7 4 = M_28 7 4 := (m_43 7 4 (by omega))
            refine g_bipush (n := 121) hx (dq tX7_pass 60 rfl) rfl (by decide) ?_
            refine g_icmp_eq (n := 124) (t := 133) hx (dq tX7_pass 61 rfl) (by decide) rfl (zrI h_47l h_47u (by decide) (by decide)) ⟨by decide, by decide⟩ (fun c_49 => ?_) (fun c_49 => ?_)
            · refine g_bipush (n := 135) hx (dq tX7_pass 66 rfl) rfl (by decide) ?_
              refine g_istore_n (n := 136) (lv' := [(1, vI 61), (3, vI (M_42 7 1)), (2, vI 256), (0, aR Γ 7)]) hx (dq tX7_pass 67 rfl) (by decide) rfl rfl ?_
              refine g_bipush (n := 138) hx (dq tX7_pass 68 rfl) rfl (by decide) ?_
              refine g_istore_n (n := 139) (lv' := [(2, vI 61), (1, vI 61), (3, vI (M_42 7 1)), (0, aR Γ 7)]) hx (dq tX7_pass 69 rfl) (by decide) rfl rfl ?_
              refine g_aload_n (n := 140) hx 3 (dq tX7_pass 70 rfl) rfl rfl ?_
              refine g_getI (n := 143) hx glX7_28 (sX7_2 (by decide)) (dq tX7_pass 71 rfl) rfl (fun h_50l h_50u => ?_)
              have e_51 : M_42 7 2 = M_28 7 2 := (m_43 7 2 (by omega))
              refine g_iconst (n := 144) hx (dq tX7_pass 72 rfl) rfl ?_
              refine g_iadd (n := 145) hx (dq tX7_pass 73 rfl) rfl ?_
              refine g_istore_n (n := 146) (lv' := [(3, vI ((M_42 7 2) + 2)), (2, vI 61), (1, vI 61), (0, aR Γ 7)]) hx (dq tX7_pass 74 rfl) (by decide) rfl rfl ?_
              refine g_goto (n := 200) hx (dq tX7_pass 75 rfl) (by decide) ?_
              have L_53 : ∀ (n_ : Nat) (M_52 : zM), (∀ u_ v_, (u_ ≠ 7 ∨ v_ ≠ 3) → M_52 u_ v_ = M_42 u_ v_) → (Tx M_52 t9 n9) → (wh t9 (min n9 (a9 + 2)) 61 61 (M_52 7 3).toNat = stp t9 n9 a9) → (M_52 7 3 ≤ n9) → (M_42 7 2 ≤ M_52 7 3) → ((400 - M_52 7 3).toNat = n_) → G Γ x 4 (QV Γ x (qctX7_pass2 M t9 n9 s9)) M_52 200 [(3, vI ((M_42 7 2) + 2)), (2, vI 61), (1, vI 61), (0, aR Γ 7)] [] := by
                intro n_
                induction n_ using Nat.strongRecOn with
                | _ n_ ih_54 =>
                  intro M_52 f_55 g_56 h_58 h_59 h_60 hm_57
                  refine g_aload_n (n := 201) hx 3 (dq tX7_pass 101 rfl) rfl rfl ?_
                  refine g_getI (n := 204) hx glX7_22 (sX7_3 (by decide)) (dq tX7_pass 102 rfl) rfl (fun h_61l h_61u => ?_)
                  refine g_aload_n (n := 205) hx 3 (dq tX7_pass 103 rfl) rfl rfl ?_
                  refine g_getI (n := 208) hx glX7_15 (sX7_1 (by decide)) (dq tX7_pass 104 rfl) rfl (fun h_62l h_62u => ?_)
                  have e_63 : M_52 7 1 = M_42 7 1 := (f_55 7 1 (by omega))
                  refine g_icmp_ge (n := 211) (t := 258) hx (dq tX7_pass 105 rfl) (by decide) rfl (zrI h_61l h_61u (by decide) (by decide)) (zrI h_62l h_62u (by decide) (by decide)) (fun c_64 => ?_) (fun c_64 => ?_)
                  · have e_65 : M_52 7 2 = M_42 7 2 := (f_55 7 2 (by omega))
                    have e_66 : M_52 7 4 = M_42 7 4 := (f_55 7 4 (by omega))
                    exact g_vret hx hr (dq tX7_pass 131 rfl) ⟨(fun u_ v_ huv_ => (((((f_55 u_ v_ (by omega)).trans (m_43 u_ v_ (by omega))).trans (m_29 u_ v_ (by omega))).trans (f_8 u_ v_ (by omega))).trans (m_3 u_ v_ (by omega)))), g_56, (Tc.mk9 g_56 hsk (by omega) (by omega) (stp_w9 h_58 (by omega) (by omega)) (fst_9 (by omega)))⟩
                  · refine g_aload_n (n := 212) hx 3 (dq tX7_pass 106 rfl) rfl rfl ?_
                    refine g_getI (n := 215) hx glX7_22 (sX7_3 (by decide)) (dq tX7_pass 107 rfl) rfl (fun h_67l h_67u => ?_)
                    refine g_iload_n (n := 216) hx 0 (dq tX7_pass 108 rfl) rfl rfl ?_
                    refine g_icmp_ge (n := 219) (t := 258) hx (dq tX7_pass 109 rfl) (by decide) rfl (zrI h_67l h_67u (by decide) (by decide)) ⟨by omega, by omega⟩ (fun c_68 => ?_) (fun c_68 => ?_)
                    · have e_69 : M_52 7 2 = M_42 7 2 := (f_55 7 2 (by omega))
                      have e_70 : M_52 7 4 = M_42 7 4 := (f_55 7 4 (by omega))
                      exact g_vret hx hr (dq tX7_pass 131 rfl) ⟨(fun u_ v_ huv_ => (((((f_55 u_ v_ (by omega)).trans (m_43 u_ v_ (by omega))).trans (m_29 u_ v_ (by omega))).trans (f_8 u_ v_ (by omega))).trans (m_3 u_ v_ (by omega)))), g_56, (Tc.mk9 g_56 hsk (by omega) (by omega) (stp_w9 h_58 (by omega) (by omega)) (fst_9 (by omega)))⟩
                    · refine g_aload_n (n := 220) hx 3 (dq tX7_pass 110 rfl) rfl rfl ?_
                      refine g_getR (n := 223) hx glX7_9 (sX7_0 (by decide)) (dq tX7_pass 111 rfl) rfl ?_
                      refine g_aload_n (n := 224) hx 3 (dq tX7_pass 112 rfl) rfl rfl ?_
                      refine g_getI (n := 227) hx glX7_22 (sX7_3 (by decide)) (dq tX7_pass 113 rfl) rfl (fun h_71l h_71u => ?_)
                      refine g_iald (n := 228) (q := (M_52 7 3).toNat) hx (aX7_0 (b := 7) (by decide)) (dq tX7_pass 114 rfl) rfl (by omega) (by omega) (by omega) rfl (fun h_72l h_72u => ?_)
                      have e_73 : M_52 7 2 = M_42 7 2 := (f_55 7 2 (by omega))
                      have e_74 : M_52 7 4 = M_42 7 4 := (f_55 7 4 (by omega))
                      have h_75 := g_56.1
                      have h_75t : M_52 (7 + 1) ((M_52 7 3).toNat) = t9 ((M_52 7 3).toNat) := g_56.2 ((M_52 7 3).toNat) (by omega)
                      refine g_iload_n (n := 229) hx 2 (dq tX7_pass 115 rfl) rfl rfl ?_
                      refine g_icmp_lt (n := 232) (t := 258) hx (dq tX7_pass 116 rfl) (by decide) rfl (zrI h_72l h_72u (by decide) (by decide)) ⟨by decide, by decide⟩ (fun c_76 => ?_) (fun c_76 => ?_)
                      · exact g_vret hx hr (dq tX7_pass 131 rfl) ⟨(fun u_ v_ huv_ => (((((f_55 u_ v_ (by omega)).trans (m_43 u_ v_ (by omega))).trans (m_29 u_ v_ (by omega))).trans (f_8 u_ v_ (by omega))).trans (m_3 u_ v_ (by omega)))), g_56, (Tc.mk9 g_56 hsk (by omega) (by omega) (stp_w9 h_58 (by omega) (by omega)) (fst_9 (by omega)))⟩
                      · refine g_aload_n (n := 233) hx 3 (dq tX7_pass 117 rfl) rfl rfl ?_
                        refine g_getR (n := 236) hx glX7_9 (sX7_0 (by decide)) (dq tX7_pass 118 rfl) rfl ?_
                        refine g_aload_n (n := 237) hx 3 (dq tX7_pass 119 rfl) rfl rfl ?_
                        refine g_getI (n := 240) hx glX7_22 (sX7_3 (by decide)) (dq tX7_pass 120 rfl) rfl (fun h_77l h_77u => ?_)
                        refine g_iald (n := 241) (q := (M_52 7 3).toNat) hx (aX7_0 (b := 7) (by decide)) (dq tX7_pass 121 rfl) rfl (by omega) (by omega) (by omega) rfl (fun h_78l h_78u => ?_)
                        have h_79 := g_56.1
                        have h_79t : M_52 (7 + 1) ((M_52 7 3).toNat) = t9 ((M_52 7 3).toNat) := g_56.2 ((M_52 7 3).toNat) (by omega)
                        refine g_iload_n (n := 242) hx 1 (dq tX7_pass 122 rfl) rfl rfl ?_
                        refine g_icmp_gt (n := 245) (t := 258) hx (dq tX7_pass 123 rfl) (by decide) rfl (zrI h_78l h_78u (by decide) (by decide)) ⟨by decide, by decide⟩ (fun c_80 => ?_) (fun c_80 => ?_)
                        · exact g_vret hx hr (dq tX7_pass 131 rfl) ⟨(fun u_ v_ huv_ => (((((f_55 u_ v_ (by omega)).trans (m_43 u_ v_ (by omega))).trans (m_29 u_ v_ (by omega))).trans (f_8 u_ v_ (by omega))).trans (m_3 u_ v_ (by omega)))), g_56, (Tc.mk9 g_56 hsk (by omega) (by omega) (stp_w9 h_58 (by omega) (by omega)) (fst_9 (by omega)))⟩
                        · refine g_aload_n (n := 246) hx 3 (dq tX7_pass 124 rfl) rfl rfl ?_
                          refine g_dup (n := 247) hx (dq tX7_pass 125 rfl) rfl rfl ?_
                          refine g_getI (n := 250) hx glX7_22 (sX7_3 (by decide)) (dq tX7_pass 126 rfl) rfl (fun h_81l h_81u => ?_)
                          refine g_iconst (n := 251) hx (dq tX7_pass 127 rfl) rfl ?_
                          refine g_iadd (n := 252) hx (dq tX7_pass 128 rfl) rfl ?_
                          refine g_putI (n := 255) hx plX7_22 (sX7_3 (by decide)) (dq tX7_pass 129 rfl) rfl (by omega) (by omega) (fun M_82 m_83e m_83 => ?_)
                          have g_84 : Tx M_82 t9 n9 := Tx.frame g_56 (fun c j hcj => m_83 c j (by omega))
                          refine g_goto (n := 200) hx (dq tX7_pass 130 rfl) (by decide) ?_
                          have e_85 : M_82 7 1 = M_52 7 1 := (m_83 7 1 (by omega))
                          have e_86 : M_82 7 2 = M_52 7 2 := (m_83 7 2 (by omega))
                          have e_87 : M_82 7 4 = M_52 7 4 := (m_83 7 4 (by omega))
                          exact ih_54 _ (by omega) M_82 (fun u_ v_ huv_ => ((m_83 u_ v_ (by omega)).trans (f_55 u_ v_ (by omega)))) g_84 (by rw [show (M_82 7 3).toNat = (M_52 7 3).toNat + 1 by omega, ← wh_go (t := t9) (n := (min n9 (a9 + 2))) (lo := 61) (hi := 61) (a := (M_52 7 3).toNat) (by omega) (by omega) (by omega)]; exact h_58) (by omega) (by omega) rfl
              exact L_53 _ M_42 (fun _ _ _ => rfl) g_44 (by rw [show (M_42 7 3).toNat = a9 + 1 by omega]; exact stp_ang (by omega) (by omega)) (by omega) (by omega) rfl
            · refine g_aload_n (n := 125) hx 3 (dq tX7_pass 62 rfl) rfl rfl ?_
              refine g_getI (n := 128) hx glX7_31 (sX7_4 (by decide)) (dq tX7_pass 63 rfl) rfl (fun h_88l h_88u => ?_)
              refine g_bipush (n := 130) hx (dq tX7_pass 64 rfl) rfl (by decide) ?_
              refine g_icmp_ne (n := 133) (t := 149) hx (dq tX7_pass 65 rfl) (by decide) rfl (zrI h_88l h_88u (by decide) (by decide)) ⟨by decide, by decide⟩ (fun c_89 => ?_) (fun c_89 => ?_)
              · refine g_aload_n (n := 150) hx 3 (dq tX7_pass 76 rfl) rfl rfl ?_
                refine g_getI (n := 153) hx glX7_31 (sX7_4 (by decide)) (dq tX7_pass 77 rfl) rfl (fun h_90l h_90u => ?_)
                refine g_bipush (n := 155) hx (dq tX7_pass 78 rfl) rfl (by decide) ?_
                refine g_icmp_lt (n := 158) (t := 176) hx (dq tX7_pass 79 rfl) (by decide) rfl (zrI h_90l h_90u (by decide) (by decide)) ⟨by decide, by decide⟩ (fun c_91 => ?_) (fun c_91 => ?_)
                · refine g_aload_n (n := 177) hx 3 (dq tX7_pass 89 rfl) rfl rfl ?_
                  refine g_getI (n := 180) hx glX7_31 (sX7_4 (by decide)) (dq tX7_pass 90 rfl) rfl (fun h_92l h_92u => ?_)
                  refine g_bipush (n := 182) hx (dq tX7_pass 91 rfl) rfl (by decide) ?_
                  refine g_icmp_lt (n := 185) (t := 200) hx (dq tX7_pass 92 rfl) (by decide) rfl (zrI h_92l h_92u (by decide) (by decide)) ⟨by decide, by decide⟩ (fun c_93 => ?_) (fun c_93 => ?_)
                  · have L_94 : ∀ (n_ : Nat), ((M_42 7 3 = M_42 7 3)) → (M_42 7 3 ≤ n9) → (M_42 7 2 ≤ M_42 7 3) → ((400 - M_42 7 3).toNat = n_) → G Γ x 4 (QV Γ x (qctX7_pass2 M t9 n9 s9)) M_42 200 [(3, vI (M_42 7 1)), (2, vI 256), (1, vI 256), (0, aR Γ 7)] [] := by
                      intro n_
                      induction n_ using Nat.strongRecOn with
                      | _ n_ ih_95 =>
                        intro h_98 h_99 h_100 hm_97
                        refine g_aload_n (n := 201) hx 3 (dq tX7_pass 101 rfl) rfl rfl ?_
                        refine g_getI (n := 204) hx glX7_22 (sX7_3 (by decide)) (dq tX7_pass 102 rfl) rfl (fun h_101l h_101u => ?_)
                        refine g_aload_n (n := 205) hx 3 (dq tX7_pass 103 rfl) rfl rfl ?_
                        refine g_getI (n := 208) hx glX7_15 (sX7_1 (by decide)) (dq tX7_pass 104 rfl) rfl (fun h_102l h_102u => ?_)
                        refine g_icmp_ge (n := 211) (t := 258) hx (dq tX7_pass 105 rfl) (by decide) rfl (zrI h_101l h_101u (by decide) (by decide)) (zrI h_102l h_102u (by decide) (by decide)) (fun c_103 => ?_) (fun c_103 => ?_)
                        · have e_104 : M_42 7 2 = M_28 7 2 := (m_43 7 2 (by omega))
                          exact g_vret hx hr (dq tX7_pass 131 rfl) ⟨(fun u_ v_ huv_ => ((((m_43 u_ v_ (by omega)).trans (m_29 u_ v_ (by omega))).trans (f_8 u_ v_ (by omega))).trans (m_3 u_ v_ (by omega)))), g_44, (Tc.mk9 g_44 hsk (by omega) (by omega) (stp_o9 (fun _ => ⟨by omega, by omega, by omega⟩) (by omega)) (fst_9 (by omega)))⟩
                        · refine g_aload_n (n := 212) hx 3 (dq tX7_pass 106 rfl) rfl rfl ?_
                          refine g_getI (n := 215) hx glX7_22 (sX7_3 (by decide)) (dq tX7_pass 107 rfl) rfl (fun h_105l h_105u => ?_)
                          refine g_iload_n (n := 216) hx 0 (dq tX7_pass 108 rfl) rfl rfl ?_
                          refine g_icmp_ge (n := 219) (t := 258) hx (dq tX7_pass 109 rfl) (by decide) rfl (zrI h_105l h_105u (by decide) (by decide)) (zrI h_45l h_45u (by decide) (by decide)) (fun c_106 => ?_) (fun c_106 => ?_)
                          · have e_107 : M_42 7 2 = M_28 7 2 := (m_43 7 2 (by omega))
                            exact g_vret hx hr (dq tX7_pass 131 rfl) ⟨(fun u_ v_ huv_ => ((((m_43 u_ v_ (by omega)).trans (m_29 u_ v_ (by omega))).trans (f_8 u_ v_ (by omega))).trans (m_3 u_ v_ (by omega)))), g_44, (Tc.mk9 g_44 hsk (by omega) (by omega) (stp_o9 (fun _ => ⟨by omega, by omega, by omega⟩) (by omega)) (fst_9 (by omega)))⟩
                          · refine g_aload_n (n := 220) hx 3 (dq tX7_pass 110 rfl) rfl rfl ?_
                            refine g_getR (n := 223) hx glX7_9 (sX7_0 (by decide)) (dq tX7_pass 111 rfl) rfl ?_
                            refine g_aload_n (n := 224) hx 3 (dq tX7_pass 112 rfl) rfl rfl ?_
                            refine g_getI (n := 227) hx glX7_22 (sX7_3 (by decide)) (dq tX7_pass 113 rfl) rfl (fun h_108l h_108u => ?_)
                            refine g_iald (n := 228) (q := (M_42 7 3).toNat) hx (aX7_0 (b := 7) (by decide)) (dq tX7_pass 114 rfl) rfl (by omega) (by omega) (by omega) rfl (fun h_109l h_109u => ?_)
                            have e_110 : M_42 7 2 = M_28 7 2 := (m_43 7 2 (by omega))
                            have h_111 := g_44.1
                            have h_111t : M_42 (7 + 1) ((M_42 7 3).toNat) = t9 ((M_42 7 3).toNat) := g_44.2 ((M_42 7 3).toNat) (by omega)
                            refine g_iload_n (n := 229) hx 2 (dq tX7_pass 115 rfl) rfl rfl ?_
                            refine g_icmp_lt (n := 232) (t := 258) hx (dq tX7_pass 116 rfl) (by decide) rfl (zrI h_109l h_109u (by decide) (by decide)) ⟨by decide, by decide⟩ (fun c_112 => ?_) (fun c_112 => ?_)
                            · exact g_vret hx hr (dq tX7_pass 131 rfl) ⟨(fun u_ v_ huv_ => ((((m_43 u_ v_ (by omega)).trans (m_29 u_ v_ (by omega))).trans (f_8 u_ v_ (by omega))).trans (m_3 u_ v_ (by omega)))), g_44, (Tc.mk9 g_44 hsk (by omega) (by omega) (stp_o9 (fun _ => ⟨by omega, by omega, by omega⟩) (by omega)) (fst_9 (by omega)))⟩
                            · omega
                    have e_113 : M_42 7 2 = M_28 7 2 := (m_43 7 2 (by omega))
                    exact L_94 _ rfl (by omega) (by omega) rfl
                  · refine g_aload_n (n := 186) hx 3 (dq tX7_pass 93 rfl) rfl rfl ?_
                    refine g_getI (n := 189) hx glX7_31 (sX7_4 (by decide)) (dq tX7_pass 94 rfl) rfl (fun h_114l h_114u => ?_)
                    refine g_bipush (n := 191) hx (dq tX7_pass 95 rfl) rfl (by decide) ?_
                    refine g_icmp_gt (n := 194) (t := 200) hx (dq tX7_pass 96 rfl) (by decide) rfl (zrI h_114l h_114u (by decide) (by decide)) ⟨by decide, by decide⟩ (fun c_115 => ?_) (fun c_115 => ?_)
                    · have L_116 : ∀ (n_ : Nat), ((M_42 7 3 = M_42 7 3)) → (M_42 7 3 ≤ n9) → (M_42 7 2 ≤ M_42 7 3) → ((400 - M_42 7 3).toNat = n_) → G Γ x 4 (QV Γ x (qctX7_pass2 M t9 n9 s9)) M_42 200 [(3, vI (M_42 7 1)), (2, vI 256), (1, vI 256), (0, aR Γ 7)] [] := by
                        intro n_
                        induction n_ using Nat.strongRecOn with
                        | _ n_ ih_117 =>
                          intro h_120 h_121 h_122 hm_119
                          refine g_aload_n (n := 201) hx 3 (dq tX7_pass 101 rfl) rfl rfl ?_
                          refine g_getI (n := 204) hx glX7_22 (sX7_3 (by decide)) (dq tX7_pass 102 rfl) rfl (fun h_123l h_123u => ?_)
                          refine g_aload_n (n := 205) hx 3 (dq tX7_pass 103 rfl) rfl rfl ?_
                          refine g_getI (n := 208) hx glX7_15 (sX7_1 (by decide)) (dq tX7_pass 104 rfl) rfl (fun h_124l h_124u => ?_)
                          refine g_icmp_ge (n := 211) (t := 258) hx (dq tX7_pass 105 rfl) (by decide) rfl (zrI h_123l h_123u (by decide) (by decide)) (zrI h_124l h_124u (by decide) (by decide)) (fun c_125 => ?_) (fun c_125 => ?_)
                          · have e_126 : M_42 7 2 = M_28 7 2 := (m_43 7 2 (by omega))
                            exact g_vret hx hr (dq tX7_pass 131 rfl) ⟨(fun u_ v_ huv_ => ((((m_43 u_ v_ (by omega)).trans (m_29 u_ v_ (by omega))).trans (f_8 u_ v_ (by omega))).trans (m_3 u_ v_ (by omega)))), g_44, (Tc.mk9 g_44 hsk (by omega) (by omega) (stp_o9 (fun _ => ⟨by omega, by omega, by omega⟩) (by omega)) (fst_9 (by omega)))⟩
                          · refine g_aload_n (n := 212) hx 3 (dq tX7_pass 106 rfl) rfl rfl ?_
                            refine g_getI (n := 215) hx glX7_22 (sX7_3 (by decide)) (dq tX7_pass 107 rfl) rfl (fun h_127l h_127u => ?_)
                            refine g_iload_n (n := 216) hx 0 (dq tX7_pass 108 rfl) rfl rfl ?_
                            refine g_icmp_ge (n := 219) (t := 258) hx (dq tX7_pass 109 rfl) (by decide) rfl (zrI h_127l h_127u (by decide) (by decide)) (zrI h_45l h_45u (by decide) (by decide)) (fun c_128 => ?_) (fun c_128 => ?_)
                            · have e_129 : M_42 7 2 = M_28 7 2 := (m_43 7 2 (by omega))
                              exact g_vret hx hr (dq tX7_pass 131 rfl) ⟨(fun u_ v_ huv_ => ((((m_43 u_ v_ (by omega)).trans (m_29 u_ v_ (by omega))).trans (f_8 u_ v_ (by omega))).trans (m_3 u_ v_ (by omega)))), g_44, (Tc.mk9 g_44 hsk (by omega) (by omega) (stp_o9 (fun _ => ⟨by omega, by omega, by omega⟩) (by omega)) (fst_9 (by omega)))⟩
                            · refine g_aload_n (n := 220) hx 3 (dq tX7_pass 110 rfl) rfl rfl ?_
                              refine g_getR (n := 223) hx glX7_9 (sX7_0 (by decide)) (dq tX7_pass 111 rfl) rfl ?_
                              refine g_aload_n (n := 224) hx 3 (dq tX7_pass 112 rfl) rfl rfl ?_
                              refine g_getI (n := 227) hx glX7_22 (sX7_3 (by decide)) (dq tX7_pass 113 rfl) rfl (fun h_130l h_130u => ?_)
                              refine g_iald (n := 228) (q := (M_42 7 3).toNat) hx (aX7_0 (b := 7) (by decide)) (dq tX7_pass 114 rfl) rfl (by omega) (by omega) (by omega) rfl (fun h_131l h_131u => ?_)
                              have e_132 : M_42 7 2 = M_28 7 2 := (m_43 7 2 (by omega))
                              have h_133 := g_44.1
                              have h_133t : M_42 (7 + 1) ((M_42 7 3).toNat) = t9 ((M_42 7 3).toNat) := g_44.2 ((M_42 7 3).toNat) (by omega)
                              refine g_iload_n (n := 229) hx 2 (dq tX7_pass 115 rfl) rfl rfl ?_
                              refine g_icmp_lt (n := 232) (t := 258) hx (dq tX7_pass 116 rfl) (by decide) rfl (zrI h_131l h_131u (by decide) (by decide)) ⟨by decide, by decide⟩ (fun c_134 => ?_) (fun c_134 => ?_)
                              · exact g_vret hx hr (dq tX7_pass 131 rfl) ⟨(fun u_ v_ huv_ => ((((m_43 u_ v_ (by omega)).trans (m_29 u_ v_ (by omega))).trans (f_8 u_ v_ (by omega))).trans (m_3 u_ v_ (by omega)))), g_44, (Tc.mk9 g_44 hsk (by omega) (by omega) (stp_o9 (fun _ => ⟨by omega, by omega, by omega⟩) (by omega)) (fst_9 (by omega)))⟩
                              · omega
                      have e_135 : M_42 7 2 = M_28 7 2 := (m_43 7 2 (by omega))
                      exact L_116 _ rfl (by omega) (by omega) rfl
                    · refine g_bipush (n := 196) hx (dq tX7_pass 97 rfl) rfl (by decide) ?_
                      refine g_istore_n (n := 197) (lv' := [(1, vI 48), (3, vI (M_42 7 1)), (2, vI 256), (0, aR Γ 7)]) hx (dq tX7_pass 98 rfl) (by decide) rfl rfl ?_
                      refine g_bipush (n := 199) hx (dq tX7_pass 99 rfl) rfl (by decide) ?_
                      refine g_istore_n (n := 200) (lv' := [(2, vI 57), (1, vI 48), (3, vI (M_42 7 1)), (0, aR Γ 7)]) hx (dq tX7_pass 100 rfl) (by decide) rfl rfl ?_
                      have L_137 : ∀ (n_ : Nat) (M_136 : zM), (∀ u_ v_, (u_ ≠ 7 ∨ v_ ≠ 3) → M_136 u_ v_ = M_42 u_ v_) → (Tx M_136 t9 n9) → (wh t9 n9 48 57 (M_136 7 3).toNat = stp t9 n9 a9) → (M_136 7 3 ≤ n9) → (M_42 7 2 ≤ M_136 7 3) → ((400 - M_136 7 3).toNat = n_) → G Γ x 4 (QV Γ x (qctX7_pass2 M t9 n9 s9)) M_136 200 [(2, vI 57), (1, vI 48), (3, vI (M_42 7 1)), (0, aR Γ 7)] [] := by
                        intro n_
                        induction n_ using Nat.strongRecOn with
                        | _ n_ ih_138 =>
                          intro M_136 f_139 g_140 h_142 h_143 h_144 hm_141
                          refine g_aload_n (n := 201) hx 3 (dq tX7_pass 101 rfl) rfl rfl ?_
                          refine g_getI (n := 204) hx glX7_22 (sX7_3 (by decide)) (dq tX7_pass 102 rfl) rfl (fun h_145l h_145u => ?_)
                          refine g_aload_n (n := 205) hx 3 (dq tX7_pass 103 rfl) rfl rfl ?_
                          refine g_getI (n := 208) hx glX7_15 (sX7_1 (by decide)) (dq tX7_pass 104 rfl) rfl (fun h_146l h_146u => ?_)
                          have e_147 : M_136 7 1 = M_42 7 1 := (f_139 7 1 (by omega))
                          refine g_icmp_ge (n := 211) (t := 258) hx (dq tX7_pass 105 rfl) (by decide) rfl (zrI h_145l h_145u (by decide) (by decide)) (zrI h_146l h_146u (by decide) (by decide)) (fun c_148 => ?_) (fun c_148 => ?_)
                          · have e_149 : M_136 7 2 = M_28 7 2 := ((f_139 7 2 (by omega))).trans (m_43 7 2 (by omega))
                            have e_150 : M_136 7 4 = M_42 7 4 := (f_139 7 4 (by omega))
                            exact g_vret hx hr (dq tX7_pass 131 rfl) ⟨(fun u_ v_ huv_ => (((((f_139 u_ v_ (by omega)).trans (m_43 u_ v_ (by omega))).trans (m_29 u_ v_ (by omega))).trans (f_8 u_ v_ (by omega))).trans (m_3 u_ v_ (by omega)))), g_140, (Tc.mk9 g_140 hsk (by omega) (by omega) (stp_w9 h_142 (by omega) (by omega)) (fst_9 (by omega)))⟩
                          · refine g_aload_n (n := 212) hx 3 (dq tX7_pass 106 rfl) rfl rfl ?_
                            refine g_getI (n := 215) hx glX7_22 (sX7_3 (by decide)) (dq tX7_pass 107 rfl) rfl (fun h_151l h_151u => ?_)
                            refine g_iload_n (n := 216) hx 2 (dq tX7_pass 108 rfl) rfl rfl ?_
                            refine g_icmp_ge (n := 219) (t := 258) hx (dq tX7_pass 109 rfl) (by decide) rfl (zrI h_151l h_151u (by decide) (by decide)) (zrI h_45l h_45u (by decide) (by decide)) (fun c_152 => ?_) (fun c_152 => ?_)
                            · have e_153 : M_136 7 2 = M_28 7 2 := ((f_139 7 2 (by omega))).trans (m_43 7 2 (by omega))
                              have e_154 : M_136 7 4 = M_42 7 4 := (f_139 7 4 (by omega))
                              exact g_vret hx hr (dq tX7_pass 131 rfl) ⟨(fun u_ v_ huv_ => (((((f_139 u_ v_ (by omega)).trans (m_43 u_ v_ (by omega))).trans (m_29 u_ v_ (by omega))).trans (f_8 u_ v_ (by omega))).trans (m_3 u_ v_ (by omega)))), g_140, (Tc.mk9 g_140 hsk (by omega) (by omega) (stp_w9 h_142 (by omega) (by omega)) (fst_9 (by omega)))⟩
                            · refine g_aload_n (n := 220) hx 3 (dq tX7_pass 110 rfl) rfl rfl ?_
                              refine g_getR (n := 223) hx glX7_9 (sX7_0 (by decide)) (dq tX7_pass 111 rfl) rfl ?_
                              refine g_aload_n (n := 224) hx 3 (dq tX7_pass 112 rfl) rfl rfl ?_
                              refine g_getI (n := 227) hx glX7_22 (sX7_3 (by decide)) (dq tX7_pass 113 rfl) rfl (fun h_155l h_155u => ?_)
                              refine g_iald (n := 228) (q := (M_136 7 3).toNat) hx (aX7_0 (b := 7) (by decide)) (dq tX7_pass 114 rfl) rfl (by omega) (by omega) (by omega) rfl (fun h_156l h_156u => ?_)
                              have e_157 : M_136 7 2 = M_28 7 2 := ((f_139 7 2 (by omega))).trans (m_43 7 2 (by omega))
                              have e_158 : M_136 7 4 = M_42 7 4 := (f_139 7 4 (by omega))
                              have h_159 := g_140.1
                              have h_159t : M_136 (7 + 1) ((M_136 7 3).toNat) = t9 ((M_136 7 3).toNat) := g_140.2 ((M_136 7 3).toNat) (by omega)
                              refine g_iload_n (n := 229) hx 1 (dq tX7_pass 115 rfl) rfl rfl ?_
                              refine g_icmp_lt (n := 232) (t := 258) hx (dq tX7_pass 116 rfl) (by decide) rfl (zrI h_156l h_156u (by decide) (by decide)) ⟨by decide, by decide⟩ (fun c_160 => ?_) (fun c_160 => ?_)
                              · exact g_vret hx hr (dq tX7_pass 131 rfl) ⟨(fun u_ v_ huv_ => (((((f_139 u_ v_ (by omega)).trans (m_43 u_ v_ (by omega))).trans (m_29 u_ v_ (by omega))).trans (f_8 u_ v_ (by omega))).trans (m_3 u_ v_ (by omega)))), g_140, (Tc.mk9 g_140 hsk (by omega) (by omega) (stp_w9 h_142 (by omega) (by omega)) (fst_9 (by omega)))⟩
                              · refine g_aload_n (n := 233) hx 3 (dq tX7_pass 117 rfl) rfl rfl ?_
                                refine g_getR (n := 236) hx glX7_9 (sX7_0 (by decide)) (dq tX7_pass 118 rfl) rfl ?_
                                refine g_aload_n (n := 237) hx 3 (dq tX7_pass 119 rfl) rfl rfl ?_
                                refine g_getI (n := 240) hx glX7_22 (sX7_3 (by decide)) (dq tX7_pass 120 rfl) rfl (fun h_161l h_161u => ?_)
                                refine g_iald (n := 241) (q := (M_136 7 3).toNat) hx (aX7_0 (b := 7) (by decide)) (dq tX7_pass 121 rfl) rfl (by omega) (by omega) (by omega) rfl (fun h_162l h_162u => ?_)
                                have h_163 := g_140.1
                                have h_163t : M_136 (7 + 1) ((M_136 7 3).toNat) = t9 ((M_136 7 3).toNat) := g_140.2 ((M_136 7 3).toNat) (by omega)
                                refine g_iload_n (n := 242) hx 0 (dq tX7_pass 122 rfl) rfl rfl ?_
                                refine g_icmp_gt (n := 245) (t := 258) hx (dq tX7_pass 123 rfl) (by decide) rfl (zrI h_162l h_162u (by decide) (by decide)) ⟨by decide, by decide⟩ (fun c_164 => ?_) (fun c_164 => ?_)
                                · exact g_vret hx hr (dq tX7_pass 131 rfl) ⟨(fun u_ v_ huv_ => (((((f_139 u_ v_ (by omega)).trans (m_43 u_ v_ (by omega))).trans (m_29 u_ v_ (by omega))).trans (f_8 u_ v_ (by omega))).trans (m_3 u_ v_ (by omega)))), g_140, (Tc.mk9 g_140 hsk (by omega) (by omega) (stp_w9 h_142 (by omega) (by omega)) (fst_9 (by omega)))⟩
                                · refine g_aload_n (n := 246) hx 3 (dq tX7_pass 124 rfl) rfl rfl ?_
                                  refine g_dup (n := 247) hx (dq tX7_pass 125 rfl) rfl rfl ?_
                                  refine g_getI (n := 250) hx glX7_22 (sX7_3 (by decide)) (dq tX7_pass 126 rfl) rfl (fun h_165l h_165u => ?_)
                                  refine g_iconst (n := 251) hx (dq tX7_pass 127 rfl) rfl ?_
                                  refine g_iadd (n := 252) hx (dq tX7_pass 128 rfl) rfl ?_
                                  refine g_putI (n := 255) hx plX7_22 (sX7_3 (by decide)) (dq tX7_pass 129 rfl) rfl (by omega) (by omega) (fun M_166 m_167e m_167 => ?_)
                                  have g_168 : Tx M_166 t9 n9 := Tx.frame g_140 (fun c j hcj => m_167 c j (by omega))
                                  refine g_goto (n := 200) hx (dq tX7_pass 130 rfl) (by decide) ?_
                                  have e_169 : M_166 7 1 = M_136 7 1 := (m_167 7 1 (by omega))
                                  have e_170 : M_166 7 2 = M_136 7 2 := (m_167 7 2 (by omega))
                                  have e_171 : M_166 7 4 = M_136 7 4 := (m_167 7 4 (by omega))
                                  exact ih_138 _ (by omega) M_166 (fun u_ v_ huv_ => ((m_167 u_ v_ (by omega)).trans (f_139 u_ v_ (by omega)))) g_168 (by rw [show (M_166 7 3).toNat = (M_136 7 3).toNat + 1 by omega, ← wh_go (t := t9) (n := n9) (lo := 48) (hi := 57) (a := (M_136 7 3).toNat) (by omega) (by omega) (by omega)]; exact h_142) (by omega) (by omega) rfl
                      have e_172 : M_42 7 2 = M_28 7 2 := (m_43 7 2 (by omega))
                      exact L_137 _ M_42 (fun _ _ _ => rfl) g_44 (by rw [show (M_42 7 3).toNat = a9 + 1 by omega]; exact stp_dig (by omega) (by omega) (by omega)) (by omega) (by omega) rfl
                · refine g_aload_n (n := 159) hx 3 (dq tX7_pass 80 rfl) rfl rfl ?_
                  refine g_getI (n := 162) hx glX7_31 (sX7_4 (by decide)) (dq tX7_pass 81 rfl) rfl (fun h_173l h_173u => ?_)
                  refine g_bipush (n := 164) hx (dq tX7_pass 82 rfl) rfl (by decide) ?_
                  refine g_icmp_gt (n := 167) (t := 176) hx (dq tX7_pass 83 rfl) (by decide) rfl (zrI h_173l h_173u (by decide) (by decide)) ⟨by decide, by decide⟩ (fun c_174 => ?_) (fun c_174 => ?_)
                  · refine g_aload_n (n := 177) hx 3 (dq tX7_pass 89 rfl) rfl rfl ?_
                    refine g_getI (n := 180) hx glX7_31 (sX7_4 (by decide)) (dq tX7_pass 90 rfl) rfl (fun h_175l h_175u => ?_)
                    refine g_bipush (n := 182) hx (dq tX7_pass 91 rfl) rfl (by decide) ?_
                    refine g_icmp_lt (n := 185) (t := 200) hx (dq tX7_pass 92 rfl) (by decide) rfl (zrI h_175l h_175u (by decide) (by decide)) ⟨by decide, by decide⟩ (fun c_176 => ?_) (fun c_176 => ?_)
                    · omega
                    · refine g_aload_n (n := 186) hx 3 (dq tX7_pass 93 rfl) rfl rfl ?_
                      refine g_getI (n := 189) hx glX7_31 (sX7_4 (by decide)) (dq tX7_pass 94 rfl) rfl (fun h_177l h_177u => ?_)
                      refine g_bipush (n := 191) hx (dq tX7_pass 95 rfl) rfl (by decide) ?_
                      refine g_icmp_gt (n := 194) (t := 200) hx (dq tX7_pass 96 rfl) (by decide) rfl (zrI h_177l h_177u (by decide) (by decide)) ⟨by decide, by decide⟩ (fun c_178 => ?_) (fun c_178 => ?_)
                      · have L_179 : ∀ (n_ : Nat), ((M_42 7 3 = M_42 7 3)) → (M_42 7 3 ≤ n9) → (M_42 7 2 ≤ M_42 7 3) → ((400 - M_42 7 3).toNat = n_) → G Γ x 4 (QV Γ x (qctX7_pass2 M t9 n9 s9)) M_42 200 [(3, vI (M_42 7 1)), (2, vI 256), (1, vI 256), (0, aR Γ 7)] [] := by
                          intro n_
                          induction n_ using Nat.strongRecOn with
                          | _ n_ ih_180 =>
                            intro h_183 h_184 h_185 hm_182
                            refine g_aload_n (n := 201) hx 3 (dq tX7_pass 101 rfl) rfl rfl ?_
                            refine g_getI (n := 204) hx glX7_22 (sX7_3 (by decide)) (dq tX7_pass 102 rfl) rfl (fun h_186l h_186u => ?_)
                            refine g_aload_n (n := 205) hx 3 (dq tX7_pass 103 rfl) rfl rfl ?_
                            refine g_getI (n := 208) hx glX7_15 (sX7_1 (by decide)) (dq tX7_pass 104 rfl) rfl (fun h_187l h_187u => ?_)
                            refine g_icmp_ge (n := 211) (t := 258) hx (dq tX7_pass 105 rfl) (by decide) rfl (zrI h_186l h_186u (by decide) (by decide)) (zrI h_187l h_187u (by decide) (by decide)) (fun c_188 => ?_) (fun c_188 => ?_)
                            · have e_189 : M_42 7 2 = M_28 7 2 := (m_43 7 2 (by omega))
                              exact g_vret hx hr (dq tX7_pass 131 rfl) ⟨(fun u_ v_ huv_ => ((((m_43 u_ v_ (by omega)).trans (m_29 u_ v_ (by omega))).trans (f_8 u_ v_ (by omega))).trans (m_3 u_ v_ (by omega)))), g_44, (Tc.mk9 g_44 hsk (by omega) (by omega) (stp_o9 (fun _ => ⟨by omega, by omega, by omega⟩) (by omega)) (fst_9 (by omega)))⟩
                            · refine g_aload_n (n := 212) hx 3 (dq tX7_pass 106 rfl) rfl rfl ?_
                              refine g_getI (n := 215) hx glX7_22 (sX7_3 (by decide)) (dq tX7_pass 107 rfl) rfl (fun h_190l h_190u => ?_)
                              refine g_iload_n (n := 216) hx 0 (dq tX7_pass 108 rfl) rfl rfl ?_
                              refine g_icmp_ge (n := 219) (t := 258) hx (dq tX7_pass 109 rfl) (by decide) rfl (zrI h_190l h_190u (by decide) (by decide)) (zrI h_45l h_45u (by decide) (by decide)) (fun c_191 => ?_) (fun c_191 => ?_)
                              · have e_192 : M_42 7 2 = M_28 7 2 := (m_43 7 2 (by omega))
                                exact g_vret hx hr (dq tX7_pass 131 rfl) ⟨(fun u_ v_ huv_ => ((((m_43 u_ v_ (by omega)).trans (m_29 u_ v_ (by omega))).trans (f_8 u_ v_ (by omega))).trans (m_3 u_ v_ (by omega)))), g_44, (Tc.mk9 g_44 hsk (by omega) (by omega) (stp_o9 (fun _ => ⟨by omega, by omega, by omega⟩) (by omega)) (fst_9 (by omega)))⟩
                              · refine g_aload_n (n := 220) hx 3 (dq tX7_pass 110 rfl) rfl rfl ?_
                                refine g_getR (n := 223) hx glX7_9 (sX7_0 (by decide)) (dq tX7_pass 111 rfl) rfl ?_
                                refine g_aload_n (n := 224) hx 3 (dq tX7_pass 112 rfl) rfl rfl ?_
                                refine g_getI (n := 227) hx glX7_22 (sX7_3 (by decide)) (dq tX7_pass 113 rfl) rfl (fun h_193l h_193u => ?_)
                                refine g_iald (n := 228) (q := (M_42 7 3).toNat) hx (aX7_0 (b := 7) (by decide)) (dq tX7_pass 114 rfl) rfl (by omega) (by omega) (by omega) rfl (fun h_194l h_194u => ?_)
                                have e_195 : M_42 7 2 = M_28 7 2 := (m_43 7 2 (by omega))
                                have h_196 := g_44.1
                                have h_196t : M_42 (7 + 1) ((M_42 7 3).toNat) = t9 ((M_42 7 3).toNat) := g_44.2 ((M_42 7 3).toNat) (by omega)
                                refine g_iload_n (n := 229) hx 2 (dq tX7_pass 115 rfl) rfl rfl ?_
                                refine g_icmp_lt (n := 232) (t := 258) hx (dq tX7_pass 116 rfl) (by decide) rfl (zrI h_194l h_194u (by decide) (by decide)) ⟨by decide, by decide⟩ (fun c_197 => ?_) (fun c_197 => ?_)
                                · exact g_vret hx hr (dq tX7_pass 131 rfl) ⟨(fun u_ v_ huv_ => ((((m_43 u_ v_ (by omega)).trans (m_29 u_ v_ (by omega))).trans (f_8 u_ v_ (by omega))).trans (m_3 u_ v_ (by omega)))), g_44, (Tc.mk9 g_44 hsk (by omega) (by omega) (stp_o9 (fun _ => ⟨by omega, by omega, by omega⟩) (by omega)) (fst_9 (by omega)))⟩
                                · omega
                        have e_198 : M_42 7 2 = M_28 7 2 := (m_43 7 2 (by omega))
                        exact L_179 _ rfl (by omega) (by omega) rfl
                      · omega
                  · refine g_bipush (n := 169) hx (dq tX7_pass 84 rfl) rfl (by decide) ?_
                    refine g_istore_n (n := 170) (lv' := [(1, vI 97), (3, vI (M_42 7 1)), (2, vI 256), (0, aR Γ 7)]) hx (dq tX7_pass 85 rfl) (by decide) rfl rfl ?_
                    refine g_bipush (n := 172) hx (dq tX7_pass 86 rfl) rfl (by decide) ?_
                    refine g_istore_n (n := 173) (lv' := [(2, vI 122), (1, vI 97), (3, vI (M_42 7 1)), (0, aR Γ 7)]) hx (dq tX7_pass 87 rfl) (by decide) rfl rfl ?_
                    refine g_goto (n := 200) hx (dq tX7_pass 88 rfl) (by decide) ?_
                    have L_200 : ∀ (n_ : Nat) (M_199 : zM), (∀ u_ v_, (u_ ≠ 7 ∨ v_ ≠ 3) → M_199 u_ v_ = M_42 u_ v_) → (Tx M_199 t9 n9) → (wh t9 n9 97 122 (M_199 7 3).toNat = stp t9 n9 a9) → (M_199 7 3 ≤ n9) → (M_42 7 2 ≤ M_199 7 3) → ((400 - M_199 7 3).toNat = n_) → G Γ x 4 (QV Γ x (qctX7_pass2 M t9 n9 s9)) M_199 200 [(2, vI 122), (1, vI 97), (3, vI (M_42 7 1)), (0, aR Γ 7)] [] := by
                      intro n_
                      induction n_ using Nat.strongRecOn with
                      | _ n_ ih_201 =>
                        intro M_199 f_202 g_203 h_205 h_206 h_207 hm_204
                        refine g_aload_n (n := 201) hx 3 (dq tX7_pass 101 rfl) rfl rfl ?_
                        refine g_getI (n := 204) hx glX7_22 (sX7_3 (by decide)) (dq tX7_pass 102 rfl) rfl (fun h_208l h_208u => ?_)
                        refine g_aload_n (n := 205) hx 3 (dq tX7_pass 103 rfl) rfl rfl ?_
                        refine g_getI (n := 208) hx glX7_15 (sX7_1 (by decide)) (dq tX7_pass 104 rfl) rfl (fun h_209l h_209u => ?_)
                        have e_210 : M_199 7 1 = M_42 7 1 := (f_202 7 1 (by omega))
                        refine g_icmp_ge (n := 211) (t := 258) hx (dq tX7_pass 105 rfl) (by decide) rfl (zrI h_208l h_208u (by decide) (by decide)) (zrI h_209l h_209u (by decide) (by decide)) (fun c_211 => ?_) (fun c_211 => ?_)
                        · have e_212 : M_199 7 2 = M_28 7 2 := ((f_202 7 2 (by omega))).trans (m_43 7 2 (by omega))
                          have e_213 : M_199 7 4 = M_42 7 4 := (f_202 7 4 (by omega))
                          exact g_vret hx hr (dq tX7_pass 131 rfl) ⟨(fun u_ v_ huv_ => (((((f_202 u_ v_ (by omega)).trans (m_43 u_ v_ (by omega))).trans (m_29 u_ v_ (by omega))).trans (f_8 u_ v_ (by omega))).trans (m_3 u_ v_ (by omega)))), g_203, (Tc.mk9 g_203 hsk (by omega) (by omega) (stp_w9 h_205 (by omega) (by omega)) (fst_9 (by omega)))⟩
                        · refine g_aload_n (n := 212) hx 3 (dq tX7_pass 106 rfl) rfl rfl ?_
                          refine g_getI (n := 215) hx glX7_22 (sX7_3 (by decide)) (dq tX7_pass 107 rfl) rfl (fun h_214l h_214u => ?_)
                          refine g_iload_n (n := 216) hx 2 (dq tX7_pass 108 rfl) rfl rfl ?_
                          refine g_icmp_ge (n := 219) (t := 258) hx (dq tX7_pass 109 rfl) (by decide) rfl (zrI h_214l h_214u (by decide) (by decide)) (zrI h_45l h_45u (by decide) (by decide)) (fun c_215 => ?_) (fun c_215 => ?_)
                          · have e_216 : M_199 7 2 = M_28 7 2 := ((f_202 7 2 (by omega))).trans (m_43 7 2 (by omega))
                            have e_217 : M_199 7 4 = M_42 7 4 := (f_202 7 4 (by omega))
                            exact g_vret hx hr (dq tX7_pass 131 rfl) ⟨(fun u_ v_ huv_ => (((((f_202 u_ v_ (by omega)).trans (m_43 u_ v_ (by omega))).trans (m_29 u_ v_ (by omega))).trans (f_8 u_ v_ (by omega))).trans (m_3 u_ v_ (by omega)))), g_203, (Tc.mk9 g_203 hsk (by omega) (by omega) (stp_w9 h_205 (by omega) (by omega)) (fst_9 (by omega)))⟩
                          · refine g_aload_n (n := 220) hx 3 (dq tX7_pass 110 rfl) rfl rfl ?_
                            refine g_getR (n := 223) hx glX7_9 (sX7_0 (by decide)) (dq tX7_pass 111 rfl) rfl ?_
                            refine g_aload_n (n := 224) hx 3 (dq tX7_pass 112 rfl) rfl rfl ?_
                            refine g_getI (n := 227) hx glX7_22 (sX7_3 (by decide)) (dq tX7_pass 113 rfl) rfl (fun h_218l h_218u => ?_)
                            refine g_iald (n := 228) (q := (M_199 7 3).toNat) hx (aX7_0 (b := 7) (by decide)) (dq tX7_pass 114 rfl) rfl (by omega) (by omega) (by omega) rfl (fun h_219l h_219u => ?_)
                            have e_220 : M_199 7 2 = M_28 7 2 := ((f_202 7 2 (by omega))).trans (m_43 7 2 (by omega))
                            have e_221 : M_199 7 4 = M_42 7 4 := (f_202 7 4 (by omega))
                            have h_222 := g_203.1
                            have h_222t : M_199 (7 + 1) ((M_199 7 3).toNat) = t9 ((M_199 7 3).toNat) := g_203.2 ((M_199 7 3).toNat) (by omega)
                            refine g_iload_n (n := 229) hx 1 (dq tX7_pass 115 rfl) rfl rfl ?_
                            refine g_icmp_lt (n := 232) (t := 258) hx (dq tX7_pass 116 rfl) (by decide) rfl (zrI h_219l h_219u (by decide) (by decide)) ⟨by decide, by decide⟩ (fun c_223 => ?_) (fun c_223 => ?_)
                            · exact g_vret hx hr (dq tX7_pass 131 rfl) ⟨(fun u_ v_ huv_ => (((((f_202 u_ v_ (by omega)).trans (m_43 u_ v_ (by omega))).trans (m_29 u_ v_ (by omega))).trans (f_8 u_ v_ (by omega))).trans (m_3 u_ v_ (by omega)))), g_203, (Tc.mk9 g_203 hsk (by omega) (by omega) (stp_w9 h_205 (by omega) (by omega)) (fst_9 (by omega)))⟩
                            · refine g_aload_n (n := 233) hx 3 (dq tX7_pass 117 rfl) rfl rfl ?_
                              refine g_getR (n := 236) hx glX7_9 (sX7_0 (by decide)) (dq tX7_pass 118 rfl) rfl ?_
                              refine g_aload_n (n := 237) hx 3 (dq tX7_pass 119 rfl) rfl rfl ?_
                              refine g_getI (n := 240) hx glX7_22 (sX7_3 (by decide)) (dq tX7_pass 120 rfl) rfl (fun h_224l h_224u => ?_)
                              refine g_iald (n := 241) (q := (M_199 7 3).toNat) hx (aX7_0 (b := 7) (by decide)) (dq tX7_pass 121 rfl) rfl (by omega) (by omega) (by omega) rfl (fun h_225l h_225u => ?_)
                              have h_226 := g_203.1
                              have h_226t : M_199 (7 + 1) ((M_199 7 3).toNat) = t9 ((M_199 7 3).toNat) := g_203.2 ((M_199 7 3).toNat) (by omega)
                              refine g_iload_n (n := 242) hx 0 (dq tX7_pass 122 rfl) rfl rfl ?_
                              refine g_icmp_gt (n := 245) (t := 258) hx (dq tX7_pass 123 rfl) (by decide) rfl (zrI h_225l h_225u (by decide) (by decide)) ⟨by decide, by decide⟩ (fun c_227 => ?_) (fun c_227 => ?_)
                              · exact g_vret hx hr (dq tX7_pass 131 rfl) ⟨(fun u_ v_ huv_ => (((((f_202 u_ v_ (by omega)).trans (m_43 u_ v_ (by omega))).trans (m_29 u_ v_ (by omega))).trans (f_8 u_ v_ (by omega))).trans (m_3 u_ v_ (by omega)))), g_203, (Tc.mk9 g_203 hsk (by omega) (by omega) (stp_w9 h_205 (by omega) (by omega)) (fst_9 (by omega)))⟩
                              · refine g_aload_n (n := 246) hx 3 (dq tX7_pass 124 rfl) rfl rfl ?_
                                refine g_dup (n := 247) hx (dq tX7_pass 125 rfl) rfl rfl ?_
                                refine g_getI (n := 250) hx glX7_22 (sX7_3 (by decide)) (dq tX7_pass 126 rfl) rfl (fun h_228l h_228u => ?_)
                                refine g_iconst (n := 251) hx (dq tX7_pass 127 rfl) rfl ?_
                                refine g_iadd (n := 252) hx (dq tX7_pass 128 rfl) rfl ?_
                                refine g_putI (n := 255) hx plX7_22 (sX7_3 (by decide)) (dq tX7_pass 129 rfl) rfl (by omega) (by omega) (fun M_229 m_230e m_230 => ?_)
                                have g_231 : Tx M_229 t9 n9 := Tx.frame g_203 (fun c j hcj => m_230 c j (by omega))
                                refine g_goto (n := 200) hx (dq tX7_pass 130 rfl) (by decide) ?_
                                have e_232 : M_229 7 1 = M_199 7 1 := (m_230 7 1 (by omega))
                                have e_233 : M_229 7 2 = M_199 7 2 := (m_230 7 2 (by omega))
                                have e_234 : M_229 7 4 = M_199 7 4 := (m_230 7 4 (by omega))
                                exact ih_201 _ (by omega) M_229 (fun u_ v_ huv_ => ((m_230 u_ v_ (by omega)).trans (f_202 u_ v_ (by omega)))) g_231 (by rw [show (M_229 7 3).toNat = (M_199 7 3).toNat + 1 by omega, ← wh_go (t := t9) (n := n9) (lo := 97) (hi := 122) (a := (M_199 7 3).toNat) (by omega) (by omega) (by omega)]; exact h_205) (by omega) (by omega) rfl
                    have e_235 : M_42 7 2 = M_28 7 2 := (m_43 7 2 (by omega))
                    exact L_200 _ M_42 (fun _ _ _ => rfl) g_44 (by rw [show (M_42 7 3).toNat = a9 + 1 by omega]; exact stp_let (by omega) (by omega) (by omega)) (by omega) (by omega) rfl
              · refine g_bipush (n := 135) hx (dq tX7_pass 66 rfl) rfl (by decide) ?_
                refine g_istore_n (n := 136) (lv' := [(1, vI 61), (3, vI (M_42 7 1)), (2, vI 256), (0, aR Γ 7)]) hx (dq tX7_pass 67 rfl) (by decide) rfl rfl ?_
                refine g_bipush (n := 138) hx (dq tX7_pass 68 rfl) rfl (by decide) ?_
                refine g_istore_n (n := 139) (lv' := [(2, vI 61), (1, vI 61), (3, vI (M_42 7 1)), (0, aR Γ 7)]) hx (dq tX7_pass 69 rfl) (by decide) rfl rfl ?_
                refine g_aload_n (n := 140) hx 3 (dq tX7_pass 70 rfl) rfl rfl ?_
                refine g_getI (n := 143) hx glX7_28 (sX7_2 (by decide)) (dq tX7_pass 71 rfl) rfl (fun h_236l h_236u => ?_)
                have e_237 : M_42 7 2 = M_28 7 2 := (m_43 7 2 (by omega))
                refine g_iconst (n := 144) hx (dq tX7_pass 72 rfl) rfl ?_
                refine g_iadd (n := 145) hx (dq tX7_pass 73 rfl) rfl ?_
                refine g_istore_n (n := 146) (lv' := [(3, vI ((M_42 7 2) + 2)), (2, vI 61), (1, vI 61), (0, aR Γ 7)]) hx (dq tX7_pass 74 rfl) (by decide) rfl rfl ?_
                refine g_goto (n := 200) hx (dq tX7_pass 75 rfl) (by decide) ?_
                have L_239 : ∀ (n_ : Nat) (M_238 : zM), (∀ u_ v_, (u_ ≠ 7 ∨ v_ ≠ 3) → M_238 u_ v_ = M_42 u_ v_) → (Tx M_238 t9 n9) → (wh t9 (min n9 (a9 + 2)) 61 61 (M_238 7 3).toNat = stp t9 n9 a9) → (M_238 7 3 ≤ n9) → (M_42 7 2 ≤ M_238 7 3) → ((400 - M_238 7 3).toNat = n_) → G Γ x 4 (QV Γ x (qctX7_pass2 M t9 n9 s9)) M_238 200 [(3, vI ((M_42 7 2) + 2)), (2, vI 61), (1, vI 61), (0, aR Γ 7)] [] := by
                  intro n_
                  induction n_ using Nat.strongRecOn with
                  | _ n_ ih_240 =>
                    intro M_238 f_241 g_242 h_244 h_245 h_246 hm_243
                    refine g_aload_n (n := 201) hx 3 (dq tX7_pass 101 rfl) rfl rfl ?_
                    refine g_getI (n := 204) hx glX7_22 (sX7_3 (by decide)) (dq tX7_pass 102 rfl) rfl (fun h_247l h_247u => ?_)
                    refine g_aload_n (n := 205) hx 3 (dq tX7_pass 103 rfl) rfl rfl ?_
                    refine g_getI (n := 208) hx glX7_15 (sX7_1 (by decide)) (dq tX7_pass 104 rfl) rfl (fun h_248l h_248u => ?_)
                    have e_249 : M_238 7 1 = M_42 7 1 := (f_241 7 1 (by omega))
                    refine g_icmp_ge (n := 211) (t := 258) hx (dq tX7_pass 105 rfl) (by decide) rfl (zrI h_247l h_247u (by decide) (by decide)) (zrI h_248l h_248u (by decide) (by decide)) (fun c_250 => ?_) (fun c_250 => ?_)
                    · have e_251 : M_238 7 2 = M_42 7 2 := (f_241 7 2 (by omega))
                      have e_252 : M_238 7 4 = M_42 7 4 := (f_241 7 4 (by omega))
                      exact g_vret hx hr (dq tX7_pass 131 rfl) ⟨(fun u_ v_ huv_ => (((((f_241 u_ v_ (by omega)).trans (m_43 u_ v_ (by omega))).trans (m_29 u_ v_ (by omega))).trans (f_8 u_ v_ (by omega))).trans (m_3 u_ v_ (by omega)))), g_242, (Tc.mk9 g_242 hsk (by omega) (by omega) (stp_w9 h_244 (by omega) (by omega)) (fst_9 (by omega)))⟩
                    · refine g_aload_n (n := 212) hx 3 (dq tX7_pass 106 rfl) rfl rfl ?_
                      refine g_getI (n := 215) hx glX7_22 (sX7_3 (by decide)) (dq tX7_pass 107 rfl) rfl (fun h_253l h_253u => ?_)
                      refine g_iload_n (n := 216) hx 0 (dq tX7_pass 108 rfl) rfl rfl ?_
                      refine g_icmp_ge (n := 219) (t := 258) hx (dq tX7_pass 109 rfl) (by decide) rfl (zrI h_253l h_253u (by decide) (by decide)) ⟨by omega, by omega⟩ (fun c_254 => ?_) (fun c_254 => ?_)
                      · have e_255 : M_238 7 2 = M_42 7 2 := (f_241 7 2 (by omega))
                        have e_256 : M_238 7 4 = M_42 7 4 := (f_241 7 4 (by omega))
                        exact g_vret hx hr (dq tX7_pass 131 rfl) ⟨(fun u_ v_ huv_ => (((((f_241 u_ v_ (by omega)).trans (m_43 u_ v_ (by omega))).trans (m_29 u_ v_ (by omega))).trans (f_8 u_ v_ (by omega))).trans (m_3 u_ v_ (by omega)))), g_242, (Tc.mk9 g_242 hsk (by omega) (by omega) (stp_w9 h_244 (by omega) (by omega)) (fst_9 (by omega)))⟩
                      · refine g_aload_n (n := 220) hx 3 (dq tX7_pass 110 rfl) rfl rfl ?_
                        refine g_getR (n := 223) hx glX7_9 (sX7_0 (by decide)) (dq tX7_pass 111 rfl) rfl ?_
                        refine g_aload_n (n := 224) hx 3 (dq tX7_pass 112 rfl) rfl rfl ?_
                        refine g_getI (n := 227) hx glX7_22 (sX7_3 (by decide)) (dq tX7_pass 113 rfl) rfl (fun h_257l h_257u => ?_)
                        refine g_iald (n := 228) (q := (M_238 7 3).toNat) hx (aX7_0 (b := 7) (by decide)) (dq tX7_pass 114 rfl) rfl (by omega) (by omega) (by omega) rfl (fun h_258l h_258u => ?_)
                        have e_259 : M_238 7 2 = M_42 7 2 := (f_241 7 2 (by omega))
                        have e_260 : M_238 7 4 = M_42 7 4 := (f_241 7 4 (by omega))
                        have h_261 := g_242.1
                        have h_261t : M_238 (7 + 1) ((M_238 7 3).toNat) = t9 ((M_238 7 3).toNat) := g_242.2 ((M_238 7 3).toNat) (by omega)
                        refine g_iload_n (n := 229) hx 2 (dq tX7_pass 115 rfl) rfl rfl ?_
                        refine g_icmp_lt (n := 232) (t := 258) hx (dq tX7_pass 116 rfl) (by decide) rfl (zrI h_258l h_258u (by decide) (by decide)) ⟨by decide, by decide⟩ (fun c_262 => ?_) (fun c_262 => ?_)
                        · exact g_vret hx hr (dq tX7_pass 131 rfl) ⟨(fun u_ v_ huv_ => (((((f_241 u_ v_ (by omega)).trans (m_43 u_ v_ (by omega))).trans (m_29 u_ v_ (by omega))).trans (f_8 u_ v_ (by omega))).trans (m_3 u_ v_ (by omega)))), g_242, (Tc.mk9 g_242 hsk (by omega) (by omega) (stp_w9 h_244 (by omega) (by omega)) (fst_9 (by omega)))⟩
                        · refine g_aload_n (n := 233) hx 3 (dq tX7_pass 117 rfl) rfl rfl ?_
                          refine g_getR (n := 236) hx glX7_9 (sX7_0 (by decide)) (dq tX7_pass 118 rfl) rfl ?_
                          refine g_aload_n (n := 237) hx 3 (dq tX7_pass 119 rfl) rfl rfl ?_
                          refine g_getI (n := 240) hx glX7_22 (sX7_3 (by decide)) (dq tX7_pass 120 rfl) rfl (fun h_263l h_263u => ?_)
                          refine g_iald (n := 241) (q := (M_238 7 3).toNat) hx (aX7_0 (b := 7) (by decide)) (dq tX7_pass 121 rfl) rfl (by omega) (by omega) (by omega) rfl (fun h_264l h_264u => ?_)
                          have h_265 := g_242.1
                          have h_265t : M_238 (7 + 1) ((M_238 7 3).toNat) = t9 ((M_238 7 3).toNat) := g_242.2 ((M_238 7 3).toNat) (by omega)
                          refine g_iload_n (n := 242) hx 1 (dq tX7_pass 122 rfl) rfl rfl ?_
                          refine g_icmp_gt (n := 245) (t := 258) hx (dq tX7_pass 123 rfl) (by decide) rfl (zrI h_264l h_264u (by decide) (by decide)) ⟨by decide, by decide⟩ (fun c_266 => ?_) (fun c_266 => ?_)
                          · exact g_vret hx hr (dq tX7_pass 131 rfl) ⟨(fun u_ v_ huv_ => (((((f_241 u_ v_ (by omega)).trans (m_43 u_ v_ (by omega))).trans (m_29 u_ v_ (by omega))).trans (f_8 u_ v_ (by omega))).trans (m_3 u_ v_ (by omega)))), g_242, (Tc.mk9 g_242 hsk (by omega) (by omega) (stp_w9 h_244 (by omega) (by omega)) (fst_9 (by omega)))⟩
                          · refine g_aload_n (n := 246) hx 3 (dq tX7_pass 124 rfl) rfl rfl ?_
                            refine g_dup (n := 247) hx (dq tX7_pass 125 rfl) rfl rfl ?_
                            refine g_getI (n := 250) hx glX7_22 (sX7_3 (by decide)) (dq tX7_pass 126 rfl) rfl (fun h_267l h_267u => ?_)
                            refine g_iconst (n := 251) hx (dq tX7_pass 127 rfl) rfl ?_
                            refine g_iadd (n := 252) hx (dq tX7_pass 128 rfl) rfl ?_
                            refine g_putI (n := 255) hx plX7_22 (sX7_3 (by decide)) (dq tX7_pass 129 rfl) rfl (by omega) (by omega) (fun M_268 m_269e m_269 => ?_)
                            have g_270 : Tx M_268 t9 n9 := Tx.frame g_242 (fun c j hcj => m_269 c j (by omega))
                            refine g_goto (n := 200) hx (dq tX7_pass 130 rfl) (by decide) ?_
                            have e_271 : M_268 7 1 = M_238 7 1 := (m_269 7 1 (by omega))
                            have e_272 : M_268 7 2 = M_238 7 2 := (m_269 7 2 (by omega))
                            have e_273 : M_268 7 4 = M_238 7 4 := (m_269 7 4 (by omega))
                            exact ih_240 _ (by omega) M_268 (fun u_ v_ huv_ => ((m_269 u_ v_ (by omega)).trans (f_241 u_ v_ (by omega)))) g_270 (by rw [show (M_268 7 3).toNat = (M_238 7 3).toNat + 1 by omega, ← wh_go (t := t9) (n := (min n9 (a9 + 2))) (lo := 61) (hi := 61) (a := (M_238 7 3).toNat) (by omega) (by omega) (by omega)]; exact h_244) (by omega) (by omega) rfl
                exact L_239 _ M_42 (fun _ _ _ => rfl) g_44 (by rw [show (M_42 7 3).toNat = a9 + 1 by omega]; exact stp_ang (by omega) (by omega)) (by omega) (by omega) rfl
          refine g_icmp_ge (n := 86) (t := 95) hx (dq tX7_pass 42 rfl) (by decide) rfl (zrI h_31l h_31u (by decide) (by decide)) (zrI h_33l h_33u (by decide) (by decide)) (fun c_35 => ?_) (fun c_35 => ?_)
          · refine g_aload_n (n := 96) hx 0 (dq tX7_pass 48 rfl) rfl rfl ?_
            refine g_getI (n := 99) hx glX7_15 (sX7_1 (by decide)) (dq tX7_pass 49 rfl) rfl (fun h_274l h_274u => ?_)
            exact J_37 (M_28 7 1) (by omega) (by omega) (by first | assumption | omega)
          · refine g_aload_n (n := 87) hx 0 (dq tX7_pass 43 rfl) rfl rfl ?_
            refine g_getI (n := 90) hx glX7_28 (sX7_2 (by decide)) (dq tX7_pass 44 rfl) rfl (fun h_275l h_275u => ?_)
            refine g_iconst (n := 91) hx (dq tX7_pass 45 rfl) rfl ?_
            refine g_iadd (n := 92) hx (dq tX7_pass 46 rfl) rfl ?_
            refine g_goto (n := 99) hx (dq tX7_pass 47 rfl) (by decide) ?_
            exact J_37 ((M_28 7 2) + 1) (by omega) (by omega) (by first | assumption | omega)
        refine g_icmp_ge (n := 58) (t := 70) hx (dq tX7_pass 28 rfl) (by decide) rfl (zrI h_20l h_20u (by decide) (by decide)) (zrI h_21l h_21u (by decide) (by decide)) (fun c_22 => ?_) (fun c_22 => ?_)
        · refine g_iconst (n := 71) hx (dq tX7_pass 35 rfl) rfl ?_
          exact J_24 (-1) (by omega) (by omega) (by first | assumption | omega)
        · refine g_aload_n (n := 59) hx 0 (dq tX7_pass 29 rfl) rfl rfl ?_
          refine g_getR (n := 62) hx glX7_9 (sX7_0 (by decide)) (dq tX7_pass 30 rfl) rfl ?_
          refine g_aload_n (n := 63) hx 0 (dq tX7_pass 31 rfl) rfl rfl ?_
          refine g_getI (n := 66) hx glX7_28 (sX7_2 (by decide)) (dq tX7_pass 32 rfl) rfl (fun h_276l h_276u => ?_)
          refine g_iald (n := 67) (q := (M_5 7 2).toNat) hx (aX7_0 (b := 7) (by decide)) (dq tX7_pass 33 rfl) rfl (by omega) (by omega) (by omega) rfl (fun h_277l h_277u => ?_)
          have h_278 := g_9.1
          have h_278t : M_5 (7 + 1) ((M_5 7 2).toNat) = t9 ((M_5 7 2).toNat) := g_9.2 ((M_5 7 2).toNat) (by omega)
          have h_278a : t9 ((M_5 7 2).toNat) = t9 a9 := congrArg t9 (by omega)
          refine g_goto (n := 71) hx (dq tX7_pass 34 rfl) (by decide) ?_
          exact J_24 (M_5 (7 + 1) ((M_5 7 2).toNat)) (by omega) (by omega) (by first | assumption | omega)
      · refine g_aload_n (n := 20) hx 0 (dq tX7_pass 9 rfl) rfl rfl ?_
        refine g_getR (n := 23) hx glX7_9 (sX7_0 (by decide)) (dq tX7_pass 10 rfl) rfl ?_
        refine g_aload_n (n := 24) hx 0 (dq tX7_pass 11 rfl) rfl rfl ?_
        refine g_getI (n := 27) hx glX7_28 (sX7_2 (by decide)) (dq tX7_pass 12 rfl) rfl (fun h_279l h_279u => ?_)
        refine g_iald (n := 28) (q := (M_5 7 2).toNat) hx (aX7_0 (b := 7) (by decide)) (dq tX7_pass 13 rfl) rfl (by omega) (by omega) (by omega) rfl (fun h_280l h_280u => ?_)
        have e_281 : M_5 7 3 = M 7 3 := ((f_8 7 3 (by omega))).trans (m_3 7 3 (by omega))
        have e_282 : M_5 7 4 = M 7 4 := ((f_8 7 4 (by omega))).trans (m_3 7 4 (by omega))
        have h_283 := g_9.1
        have h_283t : M_5 (7 + 1) ((M_5 7 2).toNat) = t9 ((M_5 7 2).toNat) := g_9.2 ((M_5 7 2).toNat) (by omega)
        refine g_bipush (n := 30) hx (dq tX7_pass 14 rfl) rfl (by decide) ?_
        refine g_icmp_ne (n := 33) (t := 46) hx (dq tX7_pass 15 rfl) (by decide) rfl (zrI h_280l h_280u (by decide) (by decide)) ⟨by decide, by decide⟩ (fun c_284 => ?_) (fun c_284 => ?_)
        · obtain ⟨a9, ha9⟩ : ∃ a9 : Nat, a9 = (M_5 7 2).toNat := ⟨_, rfl⟩
          have hsk : wh t9 n9 32 32 s9 = a9 := by rw [ha9, ← h_11]; exact wh_stop (by omega)
          have hak : (a9 : Int) = M_5 7 2 := by omega
          refine g_aload_n (n := 47) hx 0 (dq tX7_pass 23 rfl) rfl rfl ?_
          refine g_aload_n (n := 48) hx 0 (dq tX7_pass 24 rfl) rfl rfl ?_
          refine g_getI (n := 51) hx glX7_28 (sX7_2 (by decide)) (dq tX7_pass 25 rfl) rfl (fun h_285l h_285u => ?_)
          refine g_aload_n (n := 52) hx 0 (dq tX7_pass 26 rfl) rfl rfl ?_
          refine g_getI (n := 55) hx glX7_15 (sX7_1 (by decide)) (dq tX7_pass 27 rfl) rfl (fun h_286l h_286u => ?_)
          have J_289 : ∀ (j_288 : Int),  ((-1) ≤ j_288) → (j_288 ≤ 255) → (((a9 < n9 ∧ j_288 = t9 a9) ∨ (n9 ≤ a9 ∧ j_288 = -1))) → G Γ x 4 (QV Γ x (qctX7_pass2 M t9 n9 s9)) M_5 71 [(0, aR Γ 7)] [vI j_288, aR Γ 7] := by
            intro j_288 h_290 h_291 h_292
            refine g_putI (n := 74) hx plX7_31 (sX7_4 (by decide)) (dq tX7_pass 36 rfl) rfl (by omega) (by omega) (fun M_293 m_294e m_294 => ?_)
            have g_295 : Tx M_293 t9 n9 := Tx.frame g_9 (fun c j hcj => m_294 c j (by omega))
            refine g_aload_n (n := 75) hx 0 (dq tX7_pass 37 rfl) rfl rfl ?_
            refine g_aload_n (n := 76) hx 0 (dq tX7_pass 38 rfl) rfl rfl ?_
            refine g_getI (n := 79) hx glX7_28 (sX7_2 (by decide)) (dq tX7_pass 39 rfl) rfl (fun h_296l h_296u => ?_)
            have e_297 : M_293 7 2 = M_5 7 2 := (m_294 7 2 (by omega))
            refine g_aload_n (n := 80) hx 0 (dq tX7_pass 40 rfl) rfl rfl ?_
            refine g_getI (n := 83) hx glX7_15 (sX7_1 (by decide)) (dq tX7_pass 41 rfl) rfl (fun h_298l h_298u => ?_)
            have e_299 : M_293 7 1 = M_5 7 1 := (m_294 7 1 (by omega))
            have J_302 : ∀ (j_301 : Int),  (0 ≤ j_301) → (j_301 ≤ 400) → (((a9 < n9 ∧ j_301 = a9 + 1) ∨ (n9 ≤ a9 ∧ j_301 = n9))) → G Γ x 4 (QV Γ x (qctX7_pass2 M t9 n9 s9)) M_293 99 [(0, aR Γ 7)] [vI j_301, aR Γ 7] := by
              intro j_301 h_303 h_304 h_305
              have e_306 : M_293 7 3 = M_5 7 3 := (m_294 7 3 (by omega))
              refine g_putI (n := 102) hx plX7_22 (sX7_3 (by decide)) (dq tX7_pass 50 rfl) rfl (by omega) (by omega) (fun M_307 m_308e m_308 => ?_)
              have g_309 : Tx M_307 t9 n9 := Tx.frame g_295 (fun c j hcj => m_308 c j (by omega))
              refine g_sipush (n := 105) hx (dq tX7_pass 51 rfl) rfl (by decide) ?_
              refine g_istore_n (n := 106) (lv' := [(1, vI 256), (0, aR Γ 7)]) hx (dq tX7_pass 52 rfl) (by decide) rfl rfl ?_
              refine g_sipush (n := 109) hx (dq tX7_pass 53 rfl) rfl (by decide) ?_
              refine g_istore_n (n := 110) (lv' := [(2, vI 256), (1, vI 256), (0, aR Γ 7)]) hx (dq tX7_pass 54 rfl) (by decide) rfl rfl ?_
              refine g_aload_n (n := 111) hx 2 (dq tX7_pass 55 rfl) rfl rfl ?_
              refine g_getI (n := 114) hx glX7_15 (sX7_1 (by decide)) (dq tX7_pass 56 rfl) rfl (fun h_310l h_310u => ?_)
              have e_311 : M_307 7 1 = M_293 7 1 := (m_308 7 1 (by omega))
              refine g_istore_n (n := 115) (lv' := [(3, vI (M_307 7 1)), (2, vI 256), (1, vI 256), (0, aR Γ 7)]) hx (dq tX7_pass 57 rfl) (by decide) rfl rfl ?_
              refine g_aload_n (n := 116) hx 3 (dq tX7_pass 58 rfl) rfl rfl ?_
              refine g_getI (n := 119) hx glX7_31 (sX7_4 (by decide)) (dq tX7_pass 59 rfl) rfl (fun h_312l h_312u => ?_)
              have e_313 : M_307 7 4 = M_293 7 4 := (m_308 7 4 (by omega))
              refine g_bipush (n := 121) hx (dq tX7_pass 60 rfl) rfl (by decide) ?_
              refine g_icmp_eq (n := 124) (t := 133) hx (dq tX7_pass 61 rfl) (by decide) rfl (zrI h_312l h_312u (by decide) (by decide)) ⟨by decide, by decide⟩ (fun c_314 => ?_) (fun c_314 => ?_)
              · refine g_bipush (n := 135) hx (dq tX7_pass 66 rfl) rfl (by decide) ?_
                refine g_istore_n (n := 136) (lv' := [(1, vI 61), (3, vI (M_307 7 1)), (2, vI 256), (0, aR Γ 7)]) hx (dq tX7_pass 67 rfl) (by decide) rfl rfl ?_
                refine g_bipush (n := 138) hx (dq tX7_pass 68 rfl) rfl (by decide) ?_
                refine g_istore_n (n := 139) (lv' := [(2, vI 61), (1, vI 61), (3, vI (M_307 7 1)), (0, aR Γ 7)]) hx (dq tX7_pass 69 rfl) (by decide) rfl rfl ?_
                refine g_aload_n (n := 140) hx 3 (dq tX7_pass 70 rfl) rfl rfl ?_
                refine g_getI (n := 143) hx glX7_28 (sX7_2 (by decide)) (dq tX7_pass 71 rfl) rfl (fun h_315l h_315u => ?_)
                have e_316 : M_307 7 2 = M_293 7 2 := (m_308 7 2 (by omega))
                refine g_iconst (n := 144) hx (dq tX7_pass 72 rfl) rfl ?_
                refine g_iadd (n := 145) hx (dq tX7_pass 73 rfl) rfl ?_
                refine g_istore_n (n := 146) (lv' := [(3, vI ((M_307 7 2) + 2)), (2, vI 61), (1, vI 61), (0, aR Γ 7)]) hx (dq tX7_pass 74 rfl) (by decide) rfl rfl ?_
                refine g_goto (n := 200) hx (dq tX7_pass 75 rfl) (by decide) ?_
                have L_318 : ∀ (n_ : Nat) (M_317 : zM), (∀ u_ v_, (u_ ≠ 7 ∨ v_ ≠ 3) → M_317 u_ v_ = M_307 u_ v_) → (Tx M_317 t9 n9) → (wh t9 (min n9 (a9 + 2)) 61 61 (M_317 7 3).toNat = stp t9 n9 a9) → (M_317 7 3 ≤ n9) → (M_307 7 2 ≤ M_317 7 3) → ((400 - M_317 7 3).toNat = n_) → G Γ x 4 (QV Γ x (qctX7_pass2 M t9 n9 s9)) M_317 200 [(3, vI ((M_307 7 2) + 2)), (2, vI 61), (1, vI 61), (0, aR Γ 7)] [] := by
                  intro n_
                  induction n_ using Nat.strongRecOn with
                  | _ n_ ih_319 =>
                    intro M_317 f_320 g_321 h_323 h_324 h_325 hm_322
                    refine g_aload_n (n := 201) hx 3 (dq tX7_pass 101 rfl) rfl rfl ?_
                    refine g_getI (n := 204) hx glX7_22 (sX7_3 (by decide)) (dq tX7_pass 102 rfl) rfl (fun h_326l h_326u => ?_)
                    refine g_aload_n (n := 205) hx 3 (dq tX7_pass 103 rfl) rfl rfl ?_
                    refine g_getI (n := 208) hx glX7_15 (sX7_1 (by decide)) (dq tX7_pass 104 rfl) rfl (fun h_327l h_327u => ?_)
                    have e_328 : M_317 7 1 = M_307 7 1 := (f_320 7 1 (by omega))
                    refine g_icmp_ge (n := 211) (t := 258) hx (dq tX7_pass 105 rfl) (by decide) rfl (zrI h_326l h_326u (by decide) (by decide)) (zrI h_327l h_327u (by decide) (by decide)) (fun c_329 => ?_) (fun c_329 => ?_)
                    · have e_330 : M_317 7 2 = M_307 7 2 := (f_320 7 2 (by omega))
                      have e_331 : M_317 7 4 = M_307 7 4 := (f_320 7 4 (by omega))
                      exact g_vret hx hr (dq tX7_pass 131 rfl) ⟨(fun u_ v_ huv_ => (((((f_320 u_ v_ (by omega)).trans (m_308 u_ v_ (by omega))).trans (m_294 u_ v_ (by omega))).trans (f_8 u_ v_ (by omega))).trans (m_3 u_ v_ (by omega)))), g_321, (Tc.mk9 g_321 hsk (by omega) (by omega) (stp_w9 h_323 (by omega) (by omega)) (fst_9 (by omega)))⟩
                    · refine g_aload_n (n := 212) hx 3 (dq tX7_pass 106 rfl) rfl rfl ?_
                      refine g_getI (n := 215) hx glX7_22 (sX7_3 (by decide)) (dq tX7_pass 107 rfl) rfl (fun h_332l h_332u => ?_)
                      refine g_iload_n (n := 216) hx 0 (dq tX7_pass 108 rfl) rfl rfl ?_
                      refine g_icmp_ge (n := 219) (t := 258) hx (dq tX7_pass 109 rfl) (by decide) rfl (zrI h_332l h_332u (by decide) (by decide)) ⟨by omega, by omega⟩ (fun c_333 => ?_) (fun c_333 => ?_)
                      · have e_334 : M_317 7 2 = M_307 7 2 := (f_320 7 2 (by omega))
                        have e_335 : M_317 7 4 = M_307 7 4 := (f_320 7 4 (by omega))
                        exact g_vret hx hr (dq tX7_pass 131 rfl) ⟨(fun u_ v_ huv_ => (((((f_320 u_ v_ (by omega)).trans (m_308 u_ v_ (by omega))).trans (m_294 u_ v_ (by omega))).trans (f_8 u_ v_ (by omega))).trans (m_3 u_ v_ (by omega)))), g_321, (Tc.mk9 g_321 hsk (by omega) (by omega) (stp_w9 h_323 (by omega) (by omega)) (fst_9 (by omega)))⟩
                      · refine g_aload_n (n := 220) hx 3 (dq tX7_pass 110 rfl) rfl rfl ?_
                        refine g_getR (n := 223) hx glX7_9 (sX7_0 (by decide)) (dq tX7_pass 111 rfl) rfl ?_
                        refine g_aload_n (n := 224) hx 3 (dq tX7_pass 112 rfl) rfl rfl ?_
                        refine g_getI (n := 227) hx glX7_22 (sX7_3 (by decide)) (dq tX7_pass 113 rfl) rfl (fun h_336l h_336u => ?_)
                        refine g_iald (n := 228) (q := (M_317 7 3).toNat) hx (aX7_0 (b := 7) (by decide)) (dq tX7_pass 114 rfl) rfl (by omega) (by omega) (by omega) rfl (fun h_337l h_337u => ?_)
                        have e_338 : M_317 7 2 = M_307 7 2 := (f_320 7 2 (by omega))
                        have e_339 : M_317 7 4 = M_307 7 4 := (f_320 7 4 (by omega))
                        have h_340 := g_321.1
                        have h_340t : M_317 (7 + 1) ((M_317 7 3).toNat) = t9 ((M_317 7 3).toNat) := g_321.2 ((M_317 7 3).toNat) (by omega)
                        refine g_iload_n (n := 229) hx 2 (dq tX7_pass 115 rfl) rfl rfl ?_
                        refine g_icmp_lt (n := 232) (t := 258) hx (dq tX7_pass 116 rfl) (by decide) rfl (zrI h_337l h_337u (by decide) (by decide)) ⟨by decide, by decide⟩ (fun c_341 => ?_) (fun c_341 => ?_)
                        · exact g_vret hx hr (dq tX7_pass 131 rfl) ⟨(fun u_ v_ huv_ => (((((f_320 u_ v_ (by omega)).trans (m_308 u_ v_ (by omega))).trans (m_294 u_ v_ (by omega))).trans (f_8 u_ v_ (by omega))).trans (m_3 u_ v_ (by omega)))), g_321, (Tc.mk9 g_321 hsk (by omega) (by omega) (stp_w9 h_323 (by omega) (by omega)) (fst_9 (by omega)))⟩
                        · refine g_aload_n (n := 233) hx 3 (dq tX7_pass 117 rfl) rfl rfl ?_
                          refine g_getR (n := 236) hx glX7_9 (sX7_0 (by decide)) (dq tX7_pass 118 rfl) rfl ?_
                          refine g_aload_n (n := 237) hx 3 (dq tX7_pass 119 rfl) rfl rfl ?_
                          refine g_getI (n := 240) hx glX7_22 (sX7_3 (by decide)) (dq tX7_pass 120 rfl) rfl (fun h_342l h_342u => ?_)
                          refine g_iald (n := 241) (q := (M_317 7 3).toNat) hx (aX7_0 (b := 7) (by decide)) (dq tX7_pass 121 rfl) rfl (by omega) (by omega) (by omega) rfl (fun h_343l h_343u => ?_)
                          have h_344 := g_321.1
                          have h_344t : M_317 (7 + 1) ((M_317 7 3).toNat) = t9 ((M_317 7 3).toNat) := g_321.2 ((M_317 7 3).toNat) (by omega)
                          refine g_iload_n (n := 242) hx 1 (dq tX7_pass 122 rfl) rfl rfl ?_
                          refine g_icmp_gt (n := 245) (t := 258) hx (dq tX7_pass 123 rfl) (by decide) rfl (zrI h_343l h_343u (by decide) (by decide)) ⟨by decide, by decide⟩ (fun c_345 => ?_) (fun c_345 => ?_)
                          · exact g_vret hx hr (dq tX7_pass 131 rfl) ⟨(fun u_ v_ huv_ => (((((f_320 u_ v_ (by omega)).trans (m_308 u_ v_ (by omega))).trans (m_294 u_ v_ (by omega))).trans (f_8 u_ v_ (by omega))).trans (m_3 u_ v_ (by omega)))), g_321, (Tc.mk9 g_321 hsk (by omega) (by omega) (stp_w9 h_323 (by omega) (by omega)) (fst_9 (by omega)))⟩
                          · refine g_aload_n (n := 246) hx 3 (dq tX7_pass 124 rfl) rfl rfl ?_
                            refine g_dup (n := 247) hx (dq tX7_pass 125 rfl) rfl rfl ?_
                            refine g_getI (n := 250) hx glX7_22 (sX7_3 (by decide)) (dq tX7_pass 126 rfl) rfl (fun h_346l h_346u => ?_)
                            refine g_iconst (n := 251) hx (dq tX7_pass 127 rfl) rfl ?_
                            refine g_iadd (n := 252) hx (dq tX7_pass 128 rfl) rfl ?_
                            refine g_putI (n := 255) hx plX7_22 (sX7_3 (by decide)) (dq tX7_pass 129 rfl) rfl (by omega) (by omega) (fun M_347 m_348e m_348 => ?_)
                            have g_349 : Tx M_347 t9 n9 := Tx.frame g_321 (fun c j hcj => m_348 c j (by omega))
                            refine g_goto (n := 200) hx (dq tX7_pass 130 rfl) (by decide) ?_
                            have e_350 : M_347 7 1 = M_317 7 1 := (m_348 7 1 (by omega))
                            have e_351 : M_347 7 2 = M_317 7 2 := (m_348 7 2 (by omega))
                            have e_352 : M_347 7 4 = M_317 7 4 := (m_348 7 4 (by omega))
                            exact ih_319 _ (by omega) M_347 (fun u_ v_ huv_ => ((m_348 u_ v_ (by omega)).trans (f_320 u_ v_ (by omega)))) g_349 (by rw [show (M_347 7 3).toNat = (M_317 7 3).toNat + 1 by omega, ← wh_go (t := t9) (n := (min n9 (a9 + 2))) (lo := 61) (hi := 61) (a := (M_317 7 3).toNat) (by omega) (by omega) (by omega)]; exact h_323) (by omega) (by omega) rfl
                exact L_318 _ M_307 (fun _ _ _ => rfl) g_309 (by rw [show (M_307 7 3).toNat = a9 + 1 by omega]; exact stp_ang (by omega) (by omega)) (by omega) (by omega) rfl
              · refine g_aload_n (n := 125) hx 3 (dq tX7_pass 62 rfl) rfl rfl ?_
                refine g_getI (n := 128) hx glX7_31 (sX7_4 (by decide)) (dq tX7_pass 63 rfl) rfl (fun h_353l h_353u => ?_)
                refine g_bipush (n := 130) hx (dq tX7_pass 64 rfl) rfl (by decide) ?_
                refine g_icmp_ne (n := 133) (t := 149) hx (dq tX7_pass 65 rfl) (by decide) rfl (zrI h_353l h_353u (by decide) (by decide)) ⟨by decide, by decide⟩ (fun c_354 => ?_) (fun c_354 => ?_)
                · refine g_aload_n (n := 150) hx 3 (dq tX7_pass 76 rfl) rfl rfl ?_
                  refine g_getI (n := 153) hx glX7_31 (sX7_4 (by decide)) (dq tX7_pass 77 rfl) rfl (fun h_355l h_355u => ?_)
                  refine g_bipush (n := 155) hx (dq tX7_pass 78 rfl) rfl (by decide) ?_
                  refine g_icmp_lt (n := 158) (t := 176) hx (dq tX7_pass 79 rfl) (by decide) rfl (zrI h_355l h_355u (by decide) (by decide)) ⟨by decide, by decide⟩ (fun c_356 => ?_) (fun c_356 => ?_)
                  · refine g_aload_n (n := 177) hx 3 (dq tX7_pass 89 rfl) rfl rfl ?_
                    refine g_getI (n := 180) hx glX7_31 (sX7_4 (by decide)) (dq tX7_pass 90 rfl) rfl (fun h_357l h_357u => ?_)
                    refine g_bipush (n := 182) hx (dq tX7_pass 91 rfl) rfl (by decide) ?_
                    refine g_icmp_lt (n := 185) (t := 200) hx (dq tX7_pass 92 rfl) (by decide) rfl (zrI h_357l h_357u (by decide) (by decide)) ⟨by decide, by decide⟩ (fun c_358 => ?_) (fun c_358 => ?_)
                    · have L_359 : ∀ (n_ : Nat), ((M_307 7 3 = M_307 7 3)) → (M_307 7 3 ≤ n9) → (M_307 7 2 ≤ M_307 7 3) → ((400 - M_307 7 3).toNat = n_) → G Γ x 4 (QV Γ x (qctX7_pass2 M t9 n9 s9)) M_307 200 [(3, vI (M_307 7 1)), (2, vI 256), (1, vI 256), (0, aR Γ 7)] [] := by
                        intro n_
                        induction n_ using Nat.strongRecOn with
                        | _ n_ ih_360 =>
                          intro h_363 h_364 h_365 hm_362
                          refine g_aload_n (n := 201) hx 3 (dq tX7_pass 101 rfl) rfl rfl ?_
                          refine g_getI (n := 204) hx glX7_22 (sX7_3 (by decide)) (dq tX7_pass 102 rfl) rfl (fun h_366l h_366u => ?_)
                          refine g_aload_n (n := 205) hx 3 (dq tX7_pass 103 rfl) rfl rfl ?_
                          refine g_getI (n := 208) hx glX7_15 (sX7_1 (by decide)) (dq tX7_pass 104 rfl) rfl (fun h_367l h_367u => ?_)
                          refine g_icmp_ge (n := 211) (t := 258) hx (dq tX7_pass 105 rfl) (by decide) rfl (zrI h_366l h_366u (by decide) (by decide)) (zrI h_367l h_367u (by decide) (by decide)) (fun c_368 => ?_) (fun c_368 => ?_)
                          · have e_369 : M_307 7 2 = M_293 7 2 := (m_308 7 2 (by omega))
                            exact g_vret hx hr (dq tX7_pass 131 rfl) ⟨(fun u_ v_ huv_ => ((((m_308 u_ v_ (by omega)).trans (m_294 u_ v_ (by omega))).trans (f_8 u_ v_ (by omega))).trans (m_3 u_ v_ (by omega)))), g_309, (Tc.mk9 g_309 hsk (by omega) (by omega) (stp_o9 (fun _ => ⟨by omega, by omega, by omega⟩) (by omega)) (fst_9 (by omega)))⟩
                          · refine g_aload_n (n := 212) hx 3 (dq tX7_pass 106 rfl) rfl rfl ?_
                            refine g_getI (n := 215) hx glX7_22 (sX7_3 (by decide)) (dq tX7_pass 107 rfl) rfl (fun h_370l h_370u => ?_)
                            refine g_iload_n (n := 216) hx 0 (dq tX7_pass 108 rfl) rfl rfl ?_
                            refine g_icmp_ge (n := 219) (t := 258) hx (dq tX7_pass 109 rfl) (by decide) rfl (zrI h_370l h_370u (by decide) (by decide)) (zrI h_310l h_310u (by decide) (by decide)) (fun c_371 => ?_) (fun c_371 => ?_)
                            · have e_372 : M_307 7 2 = M_293 7 2 := (m_308 7 2 (by omega))
                              exact g_vret hx hr (dq tX7_pass 131 rfl) ⟨(fun u_ v_ huv_ => ((((m_308 u_ v_ (by omega)).trans (m_294 u_ v_ (by omega))).trans (f_8 u_ v_ (by omega))).trans (m_3 u_ v_ (by omega)))), g_309, (Tc.mk9 g_309 hsk (by omega) (by omega) (stp_o9 (fun _ => ⟨by omega, by omega, by omega⟩) (by omega)) (fst_9 (by omega)))⟩
                            · refine g_aload_n (n := 220) hx 3 (dq tX7_pass 110 rfl) rfl rfl ?_
                              refine g_getR (n := 223) hx glX7_9 (sX7_0 (by decide)) (dq tX7_pass 111 rfl) rfl ?_
                              refine g_aload_n (n := 224) hx 3 (dq tX7_pass 112 rfl) rfl rfl ?_
                              refine g_getI (n := 227) hx glX7_22 (sX7_3 (by decide)) (dq tX7_pass 113 rfl) rfl (fun h_373l h_373u => ?_)
                              refine g_iald (n := 228) (q := (M_307 7 3).toNat) hx (aX7_0 (b := 7) (by decide)) (dq tX7_pass 114 rfl) rfl (by omega) (by omega) (by omega) rfl (fun h_374l h_374u => ?_)
                              have e_375 : M_307 7 2 = M_293 7 2 := (m_308 7 2 (by omega))
                              have h_376 := g_309.1
                              have h_376t : M_307 (7 + 1) ((M_307 7 3).toNat) = t9 ((M_307 7 3).toNat) := g_309.2 ((M_307 7 3).toNat) (by omega)
                              refine g_iload_n (n := 229) hx 2 (dq tX7_pass 115 rfl) rfl rfl ?_
                              refine g_icmp_lt (n := 232) (t := 258) hx (dq tX7_pass 116 rfl) (by decide) rfl (zrI h_374l h_374u (by decide) (by decide)) ⟨by decide, by decide⟩ (fun c_377 => ?_) (fun c_377 => ?_)
                              · exact g_vret hx hr (dq tX7_pass 131 rfl) ⟨(fun u_ v_ huv_ => ((((m_308 u_ v_ (by omega)).trans (m_294 u_ v_ (by omega))).trans (f_8 u_ v_ (by omega))).trans (m_3 u_ v_ (by omega)))), g_309, (Tc.mk9 g_309 hsk (by omega) (by omega) (stp_o9 (fun _ => ⟨by omega, by omega, by omega⟩) (by omega)) (fst_9 (by omega)))⟩
                              · omega
                      have e_378 : M_307 7 2 = M_293 7 2 := (m_308 7 2 (by omega))
                      exact L_359 _ rfl (by omega) (by omega) rfl
                    · refine g_aload_n (n := 186) hx 3 (dq tX7_pass 93 rfl) rfl rfl ?_
                      refine g_getI (n := 189) hx glX7_31 (sX7_4 (by decide)) (dq tX7_pass 94 rfl) rfl (fun h_379l h_379u => ?_)
                      refine g_bipush (n := 191) hx (dq tX7_pass 95 rfl) rfl (by decide) ?_
                      refine g_icmp_gt (n := 194) (t := 200) hx (dq tX7_pass 96 rfl) (by decide) rfl (zrI h_379l h_379u (by decide) (by decide)) ⟨by decide, by decide⟩ (fun c_380 => ?_) (fun c_380 => ?_)
                      · have L_381 : ∀ (n_ : Nat), ((M_307 7 3 = M_307 7 3)) → (M_307 7 3 ≤ n9) → (M_307 7 2 ≤ M_307 7 3) → ((400 - M_307 7 3).toNat = n_) → G Γ x 4 (QV Γ x (qctX7_pass2 M t9 n9 s9)) M_307 200 [(3, vI (M_307 7 1)), (2, vI 256), (1, vI 256), (0, aR Γ 7)] [] := by
                          intro n_
                          induction n_ using Nat.strongRecOn with
                          | _ n_ ih_382 =>
                            intro h_385 h_386 h_387 hm_384
                            refine g_aload_n (n := 201) hx 3 (dq tX7_pass 101 rfl) rfl rfl ?_
                            refine g_getI (n := 204) hx glX7_22 (sX7_3 (by decide)) (dq tX7_pass 102 rfl) rfl (fun h_388l h_388u => ?_)
                            refine g_aload_n (n := 205) hx 3 (dq tX7_pass 103 rfl) rfl rfl ?_
                            refine g_getI (n := 208) hx glX7_15 (sX7_1 (by decide)) (dq tX7_pass 104 rfl) rfl (fun h_389l h_389u => ?_)
                            refine g_icmp_ge (n := 211) (t := 258) hx (dq tX7_pass 105 rfl) (by decide) rfl (zrI h_388l h_388u (by decide) (by decide)) (zrI h_389l h_389u (by decide) (by decide)) (fun c_390 => ?_) (fun c_390 => ?_)
                            · have e_391 : M_307 7 2 = M_293 7 2 := (m_308 7 2 (by omega))
                              exact g_vret hx hr (dq tX7_pass 131 rfl) ⟨(fun u_ v_ huv_ => ((((m_308 u_ v_ (by omega)).trans (m_294 u_ v_ (by omega))).trans (f_8 u_ v_ (by omega))).trans (m_3 u_ v_ (by omega)))), g_309, (Tc.mk9 g_309 hsk (by omega) (by omega) (stp_o9 (fun _ => ⟨by omega, by omega, by omega⟩) (by omega)) (fst_9 (by omega)))⟩
                            · refine g_aload_n (n := 212) hx 3 (dq tX7_pass 106 rfl) rfl rfl ?_
                              refine g_getI (n := 215) hx glX7_22 (sX7_3 (by decide)) (dq tX7_pass 107 rfl) rfl (fun h_392l h_392u => ?_)
                              refine g_iload_n (n := 216) hx 0 (dq tX7_pass 108 rfl) rfl rfl ?_
                              refine g_icmp_ge (n := 219) (t := 258) hx (dq tX7_pass 109 rfl) (by decide) rfl (zrI h_392l h_392u (by decide) (by decide)) (zrI h_310l h_310u (by decide) (by decide)) (fun c_393 => ?_) (fun c_393 => ?_)
                              · have e_394 : M_307 7 2 = M_293 7 2 := (m_308 7 2 (by omega))
                                exact g_vret hx hr (dq tX7_pass 131 rfl) ⟨(fun u_ v_ huv_ => ((((m_308 u_ v_ (by omega)).trans (m_294 u_ v_ (by omega))).trans (f_8 u_ v_ (by omega))).trans (m_3 u_ v_ (by omega)))), g_309, (Tc.mk9 g_309 hsk (by omega) (by omega) (stp_o9 (fun _ => ⟨by omega, by omega, by omega⟩) (by omega)) (fst_9 (by omega)))⟩
                              · refine g_aload_n (n := 220) hx 3 (dq tX7_pass 110 rfl) rfl rfl ?_
                                refine g_getR (n := 223) hx glX7_9 (sX7_0 (by decide)) (dq tX7_pass 111 rfl) rfl ?_
                                refine g_aload_n (n := 224) hx 3 (dq tX7_pass 112 rfl) rfl rfl ?_
                                refine g_getI (n := 227) hx glX7_22 (sX7_3 (by decide)) (dq tX7_pass 113 rfl) rfl (fun h_395l h_395u => ?_)
                                refine g_iald (n := 228) (q := (M_307 7 3).toNat) hx (aX7_0 (b := 7) (by decide)) (dq tX7_pass 114 rfl) rfl (by omega) (by omega) (by omega) rfl (fun h_396l h_396u => ?_)
                                have e_397 : M_307 7 2 = M_293 7 2 := (m_308 7 2 (by omega))
                                have h_398 := g_309.1
                                have h_398t : M_307 (7 + 1) ((M_307 7 3).toNat) = t9 ((M_307 7 3).toNat) := g_309.2 ((M_307 7 3).toNat) (by omega)
                                refine g_iload_n (n := 229) hx 2 (dq tX7_pass 115 rfl) rfl rfl ?_
                                refine g_icmp_lt (n := 232) (t := 258) hx (dq tX7_pass 116 rfl) (by decide) rfl (zrI h_396l h_396u (by decide) (by decide)) ⟨by decide, by decide⟩ (fun c_399 => ?_) (fun c_399 => ?_)
                                · exact g_vret hx hr (dq tX7_pass 131 rfl) ⟨(fun u_ v_ huv_ => ((((m_308 u_ v_ (by omega)).trans (m_294 u_ v_ (by omega))).trans (f_8 u_ v_ (by omega))).trans (m_3 u_ v_ (by omega)))), g_309, (Tc.mk9 g_309 hsk (by omega) (by omega) (stp_o9 (fun _ => ⟨by omega, by omega, by omega⟩) (by omega)) (fst_9 (by omega)))⟩
                                · omega
                        have e_400 : M_307 7 2 = M_293 7 2 := (m_308 7 2 (by omega))
                        exact L_381 _ rfl (by omega) (by omega) rfl
                      · refine g_bipush (n := 196) hx (dq tX7_pass 97 rfl) rfl (by decide) ?_
                        refine g_istore_n (n := 197) (lv' := [(1, vI 48), (3, vI (M_307 7 1)), (2, vI 256), (0, aR Γ 7)]) hx (dq tX7_pass 98 rfl) (by decide) rfl rfl ?_
                        refine g_bipush (n := 199) hx (dq tX7_pass 99 rfl) rfl (by decide) ?_
                        refine g_istore_n (n := 200) (lv' := [(2, vI 57), (1, vI 48), (3, vI (M_307 7 1)), (0, aR Γ 7)]) hx (dq tX7_pass 100 rfl) (by decide) rfl rfl ?_
                        have L_402 : ∀ (n_ : Nat) (M_401 : zM), (∀ u_ v_, (u_ ≠ 7 ∨ v_ ≠ 3) → M_401 u_ v_ = M_307 u_ v_) → (Tx M_401 t9 n9) → (wh t9 n9 48 57 (M_401 7 3).toNat = stp t9 n9 a9) → (M_401 7 3 ≤ n9) → (M_307 7 2 ≤ M_401 7 3) → ((400 - M_401 7 3).toNat = n_) → G Γ x 4 (QV Γ x (qctX7_pass2 M t9 n9 s9)) M_401 200 [(2, vI 57), (1, vI 48), (3, vI (M_307 7 1)), (0, aR Γ 7)] [] := by
                          intro n_
                          induction n_ using Nat.strongRecOn with
                          | _ n_ ih_403 =>
                            intro M_401 f_404 g_405 h_407 h_408 h_409 hm_406
                            refine g_aload_n (n := 201) hx 3 (dq tX7_pass 101 rfl) rfl rfl ?_
                            refine g_getI (n := 204) hx glX7_22 (sX7_3 (by decide)) (dq tX7_pass 102 rfl) rfl (fun h_410l h_410u => ?_)
                            refine g_aload_n (n := 205) hx 3 (dq tX7_pass 103 rfl) rfl rfl ?_
                            refine g_getI (n := 208) hx glX7_15 (sX7_1 (by decide)) (dq tX7_pass 104 rfl) rfl (fun h_411l h_411u => ?_)
                            have e_412 : M_401 7 1 = M_307 7 1 := (f_404 7 1 (by omega))
                            refine g_icmp_ge (n := 211) (t := 258) hx (dq tX7_pass 105 rfl) (by decide) rfl (zrI h_410l h_410u (by decide) (by decide)) (zrI h_411l h_411u (by decide) (by decide)) (fun c_413 => ?_) (fun c_413 => ?_)
                            · have e_414 : M_401 7 2 = M_293 7 2 := ((f_404 7 2 (by omega))).trans (m_308 7 2 (by omega))
                              have e_415 : M_401 7 4 = M_307 7 4 := (f_404 7 4 (by omega))
                              exact g_vret hx hr (dq tX7_pass 131 rfl) ⟨(fun u_ v_ huv_ => (((((f_404 u_ v_ (by omega)).trans (m_308 u_ v_ (by omega))).trans (m_294 u_ v_ (by omega))).trans (f_8 u_ v_ (by omega))).trans (m_3 u_ v_ (by omega)))), g_405, (Tc.mk9 g_405 hsk (by omega) (by omega) (stp_w9 h_407 (by omega) (by omega)) (fst_9 (by omega)))⟩
                            · refine g_aload_n (n := 212) hx 3 (dq tX7_pass 106 rfl) rfl rfl ?_
                              refine g_getI (n := 215) hx glX7_22 (sX7_3 (by decide)) (dq tX7_pass 107 rfl) rfl (fun h_416l h_416u => ?_)
                              refine g_iload_n (n := 216) hx 2 (dq tX7_pass 108 rfl) rfl rfl ?_
                              refine g_icmp_ge (n := 219) (t := 258) hx (dq tX7_pass 109 rfl) (by decide) rfl (zrI h_416l h_416u (by decide) (by decide)) (zrI h_310l h_310u (by decide) (by decide)) (fun c_417 => ?_) (fun c_417 => ?_)
                              · have e_418 : M_401 7 2 = M_293 7 2 := ((f_404 7 2 (by omega))).trans (m_308 7 2 (by omega))
                                have e_419 : M_401 7 4 = M_307 7 4 := (f_404 7 4 (by omega))
                                exact g_vret hx hr (dq tX7_pass 131 rfl) ⟨(fun u_ v_ huv_ => (((((f_404 u_ v_ (by omega)).trans (m_308 u_ v_ (by omega))).trans (m_294 u_ v_ (by omega))).trans (f_8 u_ v_ (by omega))).trans (m_3 u_ v_ (by omega)))), g_405, (Tc.mk9 g_405 hsk (by omega) (by omega) (stp_w9 h_407 (by omega) (by omega)) (fst_9 (by omega)))⟩
                              · refine g_aload_n (n := 220) hx 3 (dq tX7_pass 110 rfl) rfl rfl ?_
                                refine g_getR (n := 223) hx glX7_9 (sX7_0 (by decide)) (dq tX7_pass 111 rfl) rfl ?_
                                refine g_aload_n (n := 224) hx 3 (dq tX7_pass 112 rfl) rfl rfl ?_
                                refine g_getI (n := 227) hx glX7_22 (sX7_3 (by decide)) (dq tX7_pass 113 rfl) rfl (fun h_420l h_420u => ?_)
                                refine g_iald (n := 228) (q := (M_401 7 3).toNat) hx (aX7_0 (b := 7) (by decide)) (dq tX7_pass 114 rfl) rfl (by omega) (by omega) (by omega) rfl (fun h_421l h_421u => ?_)
                                have e_422 : M_401 7 2 = M_293 7 2 := ((f_404 7 2 (by omega))).trans (m_308 7 2 (by omega))
                                have e_423 : M_401 7 4 = M_307 7 4 := (f_404 7 4 (by omega))
                                have h_424 := g_405.1
                                have h_424t : M_401 (7 + 1) ((M_401 7 3).toNat) = t9 ((M_401 7 3).toNat) := g_405.2 ((M_401 7 3).toNat) (by omega)
                                refine g_iload_n (n := 229) hx 1 (dq tX7_pass 115 rfl) rfl rfl ?_
                                refine g_icmp_lt (n := 232) (t := 258) hx (dq tX7_pass 116 rfl) (by decide) rfl (zrI h_421l h_421u (by decide) (by decide)) ⟨by decide, by decide⟩ (fun c_425 => ?_) (fun c_425 => ?_)
                                · exact g_vret hx hr (dq tX7_pass 131 rfl) ⟨(fun u_ v_ huv_ => (((((f_404 u_ v_ (by omega)).trans (m_308 u_ v_ (by omega))).trans (m_294 u_ v_ (by omega))).trans (f_8 u_ v_ (by omega))).trans (m_3 u_ v_ (by omega)))), g_405, (Tc.mk9 g_405 hsk (by omega) (by omega) (stp_w9 h_407 (by omega) (by omega)) (fst_9 (by omega)))⟩
                                · refine g_aload_n (n := 233) hx 3 (dq tX7_pass 117 rfl) rfl rfl ?_
                                  refine g_getR (n := 236) hx glX7_9 (sX7_0 (by decide)) (dq tX7_pass 118 rfl) rfl ?_
                                  refine g_aload_n (n := 237) hx 3 (dq tX7_pass 119 rfl) rfl rfl ?_
                                  refine g_getI (n := 240) hx glX7_22 (sX7_3 (by decide)) (dq tX7_pass 120 rfl) rfl (fun h_426l h_426u => ?_)
                                  refine g_iald (n := 241) (q := (M_401 7 3).toNat) hx (aX7_0 (b := 7) (by decide)) (dq tX7_pass 121 rfl) rfl (by omega) (by omega) (by omega) rfl (fun h_427l h_427u => ?_)
                                  have h_428 := g_405.1
                                  have h_428t : M_401 (7 + 1) ((M_401 7 3).toNat) = t9 ((M_401 7 3).toNat) := g_405.2 ((M_401 7 3).toNat) (by omega)
                                  refine g_iload_n (n := 242) hx 0 (dq tX7_pass 122 rfl) rfl rfl ?_
                                  refine g_icmp_gt (n := 245) (t := 258) hx (dq tX7_pass 123 rfl) (by decide) rfl (zrI h_427l h_427u (by decide) (by decide)) ⟨by decide, by decide⟩ (fun c_429 => ?_) (fun c_429 => ?_)
                                  · exact g_vret hx hr (dq tX7_pass 131 rfl) ⟨(fun u_ v_ huv_ => (((((f_404 u_ v_ (by omega)).trans (m_308 u_ v_ (by omega))).trans (m_294 u_ v_ (by omega))).trans (f_8 u_ v_ (by omega))).trans (m_3 u_ v_ (by omega)))), g_405, (Tc.mk9 g_405 hsk (by omega) (by omega) (stp_w9 h_407 (by omega) (by omega)) (fst_9 (by omega)))⟩
                                  · refine g_aload_n (n := 246) hx 3 (dq tX7_pass 124 rfl) rfl rfl ?_
                                    refine g_dup (n := 247) hx (dq tX7_pass 125 rfl) rfl rfl ?_
                                    refine g_getI (n := 250) hx glX7_22 (sX7_3 (by decide)) (dq tX7_pass 126 rfl) rfl (fun h_430l h_430u => ?_)
                                    refine g_iconst (n := 251) hx (dq tX7_pass 127 rfl) rfl ?_
                                    refine g_iadd (n := 252) hx (dq tX7_pass 128 rfl) rfl ?_
                                    refine g_putI (n := 255) hx plX7_22 (sX7_3 (by decide)) (dq tX7_pass 129 rfl) rfl (by omega) (by omega) (fun M_431 m_432e m_432 => ?_)
                                    have g_433 : Tx M_431 t9 n9 := Tx.frame g_405 (fun c j hcj => m_432 c j (by omega))
                                    refine g_goto (n := 200) hx (dq tX7_pass 130 rfl) (by decide) ?_
                                    have e_434 : M_431 7 1 = M_401 7 1 := (m_432 7 1 (by omega))
                                    have e_435 : M_431 7 2 = M_401 7 2 := (m_432 7 2 (by omega))
                                    have e_436 : M_431 7 4 = M_401 7 4 := (m_432 7 4 (by omega))
                                    exact ih_403 _ (by omega) M_431 (fun u_ v_ huv_ => ((m_432 u_ v_ (by omega)).trans (f_404 u_ v_ (by omega)))) g_433 (by rw [show (M_431 7 3).toNat = (M_401 7 3).toNat + 1 by omega, ← wh_go (t := t9) (n := n9) (lo := 48) (hi := 57) (a := (M_401 7 3).toNat) (by omega) (by omega) (by omega)]; exact h_407) (by omega) (by omega) rfl
                        have e_437 : M_307 7 2 = M_293 7 2 := (m_308 7 2 (by omega))
                        exact L_402 _ M_307 (fun _ _ _ => rfl) g_309 (by rw [show (M_307 7 3).toNat = a9 + 1 by omega]; exact stp_dig (by omega) (by omega) (by omega)) (by omega) (by omega) rfl
                  · refine g_aload_n (n := 159) hx 3 (dq tX7_pass 80 rfl) rfl rfl ?_
                    refine g_getI (n := 162) hx glX7_31 (sX7_4 (by decide)) (dq tX7_pass 81 rfl) rfl (fun h_438l h_438u => ?_)
                    refine g_bipush (n := 164) hx (dq tX7_pass 82 rfl) rfl (by decide) ?_
                    refine g_icmp_gt (n := 167) (t := 176) hx (dq tX7_pass 83 rfl) (by decide) rfl (zrI h_438l h_438u (by decide) (by decide)) ⟨by decide, by decide⟩ (fun c_439 => ?_) (fun c_439 => ?_)
                    · refine g_aload_n (n := 177) hx 3 (dq tX7_pass 89 rfl) rfl rfl ?_
                      refine g_getI (n := 180) hx glX7_31 (sX7_4 (by decide)) (dq tX7_pass 90 rfl) rfl (fun h_440l h_440u => ?_)
                      refine g_bipush (n := 182) hx (dq tX7_pass 91 rfl) rfl (by decide) ?_
                      refine g_icmp_lt (n := 185) (t := 200) hx (dq tX7_pass 92 rfl) (by decide) rfl (zrI h_440l h_440u (by decide) (by decide)) ⟨by decide, by decide⟩ (fun c_441 => ?_) (fun c_441 => ?_)
                      · omega
                      · refine g_aload_n (n := 186) hx 3 (dq tX7_pass 93 rfl) rfl rfl ?_
                        refine g_getI (n := 189) hx glX7_31 (sX7_4 (by decide)) (dq tX7_pass 94 rfl) rfl (fun h_442l h_442u => ?_)
                        refine g_bipush (n := 191) hx (dq tX7_pass 95 rfl) rfl (by decide) ?_
                        refine g_icmp_gt (n := 194) (t := 200) hx (dq tX7_pass 96 rfl) (by decide) rfl (zrI h_442l h_442u (by decide) (by decide)) ⟨by decide, by decide⟩ (fun c_443 => ?_) (fun c_443 => ?_)
                        · have L_444 : ∀ (n_ : Nat), ((M_307 7 3 = M_307 7 3)) → (M_307 7 3 ≤ n9) → (M_307 7 2 ≤ M_307 7 3) → ((400 - M_307 7 3).toNat = n_) → G Γ x 4 (QV Γ x (qctX7_pass2 M t9 n9 s9)) M_307 200 [(3, vI (M_307 7 1)), (2, vI 256), (1, vI 256), (0, aR Γ 7)] [] := by
                            intro n_
                            induction n_ using Nat.strongRecOn with
                            | _ n_ ih_445 =>
                              intro h_448 h_449 h_450 hm_447
                              refine g_aload_n (n := 201) hx 3 (dq tX7_pass 101 rfl) rfl rfl ?_
                              refine g_getI (n := 204) hx glX7_22 (sX7_3 (by decide)) (dq tX7_pass 102 rfl) rfl (fun h_451l h_451u => ?_)
                              refine g_aload_n (n := 205) hx 3 (dq tX7_pass 103 rfl) rfl rfl ?_
                              refine g_getI (n := 208) hx glX7_15 (sX7_1 (by decide)) (dq tX7_pass 104 rfl) rfl (fun h_452l h_452u => ?_)
                              refine g_icmp_ge (n := 211) (t := 258) hx (dq tX7_pass 105 rfl) (by decide) rfl (zrI h_451l h_451u (by decide) (by decide)) (zrI h_452l h_452u (by decide) (by decide)) (fun c_453 => ?_) (fun c_453 => ?_)
                              · have e_454 : M_307 7 2 = M_293 7 2 := (m_308 7 2 (by omega))
                                exact g_vret hx hr (dq tX7_pass 131 rfl) ⟨(fun u_ v_ huv_ => ((((m_308 u_ v_ (by omega)).trans (m_294 u_ v_ (by omega))).trans (f_8 u_ v_ (by omega))).trans (m_3 u_ v_ (by omega)))), g_309, (Tc.mk9 g_309 hsk (by omega) (by omega) (stp_o9 (fun _ => ⟨by omega, by omega, by omega⟩) (by omega)) (fst_9 (by omega)))⟩
                              · refine g_aload_n (n := 212) hx 3 (dq tX7_pass 106 rfl) rfl rfl ?_
                                refine g_getI (n := 215) hx glX7_22 (sX7_3 (by decide)) (dq tX7_pass 107 rfl) rfl (fun h_455l h_455u => ?_)
                                refine g_iload_n (n := 216) hx 0 (dq tX7_pass 108 rfl) rfl rfl ?_
                                refine g_icmp_ge (n := 219) (t := 258) hx (dq tX7_pass 109 rfl) (by decide) rfl (zrI h_455l h_455u (by decide) (by decide)) (zrI h_310l h_310u (by decide) (by decide)) (fun c_456 => ?_) (fun c_456 => ?_)
                                · have e_457 : M_307 7 2 = M_293 7 2 := (m_308 7 2 (by omega))
                                  exact g_vret hx hr (dq tX7_pass 131 rfl) ⟨(fun u_ v_ huv_ => ((((m_308 u_ v_ (by omega)).trans (m_294 u_ v_ (by omega))).trans (f_8 u_ v_ (by omega))).trans (m_3 u_ v_ (by omega)))), g_309, (Tc.mk9 g_309 hsk (by omega) (by omega) (stp_o9 (fun _ => ⟨by omega, by omega, by omega⟩) (by omega)) (fst_9 (by omega)))⟩
                                · refine g_aload_n (n := 220) hx 3 (dq tX7_pass 110 rfl) rfl rfl ?_
                                  refine g_getR (n := 223) hx glX7_9 (sX7_0 (by decide)) (dq tX7_pass 111 rfl) rfl ?_
                                  refine g_aload_n (n := 224) hx 3 (dq tX7_pass 112 rfl) rfl rfl ?_
                                  refine g_getI (n := 227) hx glX7_22 (sX7_3 (by decide)) (dq tX7_pass 113 rfl) rfl (fun h_458l h_458u => ?_)
                                  refine g_iald (n := 228) (q := (M_307 7 3).toNat) hx (aX7_0 (b := 7) (by decide)) (dq tX7_pass 114 rfl) rfl (by omega) (by omega) (by omega) rfl (fun h_459l h_459u => ?_)
                                  have e_460 : M_307 7 2 = M_293 7 2 := (m_308 7 2 (by omega))
                                  have h_461 := g_309.1
                                  have h_461t : M_307 (7 + 1) ((M_307 7 3).toNat) = t9 ((M_307 7 3).toNat) := g_309.2 ((M_307 7 3).toNat) (by omega)
                                  refine g_iload_n (n := 229) hx 2 (dq tX7_pass 115 rfl) rfl rfl ?_
                                  refine g_icmp_lt (n := 232) (t := 258) hx (dq tX7_pass 116 rfl) (by decide) rfl (zrI h_459l h_459u (by decide) (by decide)) ⟨by decide, by decide⟩ (fun c_462 => ?_) (fun c_462 => ?_)
                                  · exact g_vret hx hr (dq tX7_pass 131 rfl) ⟨(fun u_ v_ huv_ => ((((m_308 u_ v_ (by omega)).trans (m_294 u_ v_ (by omega))).trans (f_8 u_ v_ (by omega))).trans (m_3 u_ v_ (by omega)))), g_309, (Tc.mk9 g_309 hsk (by omega) (by omega) (stp_o9 (fun _ => ⟨by omega, by omega, by omega⟩) (by omega)) (fst_9 (by omega)))⟩
                                  · omega
                          have e_463 : M_307 7 2 = M_293 7 2 := (m_308 7 2 (by omega))
                          exact L_444 _ rfl (by omega) (by omega) rfl
                        · omega
                    · refine g_bipush (n := 169) hx (dq tX7_pass 84 rfl) rfl (by decide) ?_
                      refine g_istore_n (n := 170) (lv' := [(1, vI 97), (3, vI (M_307 7 1)), (2, vI 256), (0, aR Γ 7)]) hx (dq tX7_pass 85 rfl) (by decide) rfl rfl ?_
                      refine g_bipush (n := 172) hx (dq tX7_pass 86 rfl) rfl (by decide) ?_
                      refine g_istore_n (n := 173) (lv' := [(2, vI 122), (1, vI 97), (3, vI (M_307 7 1)), (0, aR Γ 7)]) hx (dq tX7_pass 87 rfl) (by decide) rfl rfl ?_
                      refine g_goto (n := 200) hx (dq tX7_pass 88 rfl) (by decide) ?_
                      have L_465 : ∀ (n_ : Nat) (M_464 : zM), (∀ u_ v_, (u_ ≠ 7 ∨ v_ ≠ 3) → M_464 u_ v_ = M_307 u_ v_) → (Tx M_464 t9 n9) → (wh t9 n9 97 122 (M_464 7 3).toNat = stp t9 n9 a9) → (M_464 7 3 ≤ n9) → (M_307 7 2 ≤ M_464 7 3) → ((400 - M_464 7 3).toNat = n_) → G Γ x 4 (QV Γ x (qctX7_pass2 M t9 n9 s9)) M_464 200 [(2, vI 122), (1, vI 97), (3, vI (M_307 7 1)), (0, aR Γ 7)] [] := by
                        intro n_
                        induction n_ using Nat.strongRecOn with
                        | _ n_ ih_466 =>
                          intro M_464 f_467 g_468 h_470 h_471 h_472 hm_469
                          refine g_aload_n (n := 201) hx 3 (dq tX7_pass 101 rfl) rfl rfl ?_
                          refine g_getI (n := 204) hx glX7_22 (sX7_3 (by decide)) (dq tX7_pass 102 rfl) rfl (fun h_473l h_473u => ?_)
                          refine g_aload_n (n := 205) hx 3 (dq tX7_pass 103 rfl) rfl rfl ?_
                          refine g_getI (n := 208) hx glX7_15 (sX7_1 (by decide)) (dq tX7_pass 104 rfl) rfl (fun h_474l h_474u => ?_)
                          have e_475 : M_464 7 1 = M_307 7 1 := (f_467 7 1 (by omega))
                          refine g_icmp_ge (n := 211) (t := 258) hx (dq tX7_pass 105 rfl) (by decide) rfl (zrI h_473l h_473u (by decide) (by decide)) (zrI h_474l h_474u (by decide) (by decide)) (fun c_476 => ?_) (fun c_476 => ?_)
                          · have e_477 : M_464 7 2 = M_293 7 2 := ((f_467 7 2 (by omega))).trans (m_308 7 2 (by omega))
                            have e_478 : M_464 7 4 = M_307 7 4 := (f_467 7 4 (by omega))
                            exact g_vret hx hr (dq tX7_pass 131 rfl) ⟨(fun u_ v_ huv_ => (((((f_467 u_ v_ (by omega)).trans (m_308 u_ v_ (by omega))).trans (m_294 u_ v_ (by omega))).trans (f_8 u_ v_ (by omega))).trans (m_3 u_ v_ (by omega)))), g_468, (Tc.mk9 g_468 hsk (by omega) (by omega) (stp_w9 h_470 (by omega) (by omega)) (fst_9 (by omega)))⟩
                          · refine g_aload_n (n := 212) hx 3 (dq tX7_pass 106 rfl) rfl rfl ?_
                            refine g_getI (n := 215) hx glX7_22 (sX7_3 (by decide)) (dq tX7_pass 107 rfl) rfl (fun h_479l h_479u => ?_)
                            refine g_iload_n (n := 216) hx 2 (dq tX7_pass 108 rfl) rfl rfl ?_
                            refine g_icmp_ge (n := 219) (t := 258) hx (dq tX7_pass 109 rfl) (by decide) rfl (zrI h_479l h_479u (by decide) (by decide)) (zrI h_310l h_310u (by decide) (by decide)) (fun c_480 => ?_) (fun c_480 => ?_)
                            · have e_481 : M_464 7 2 = M_293 7 2 := ((f_467 7 2 (by omega))).trans (m_308 7 2 (by omega))
                              have e_482 : M_464 7 4 = M_307 7 4 := (f_467 7 4 (by omega))
                              exact g_vret hx hr (dq tX7_pass 131 rfl) ⟨(fun u_ v_ huv_ => (((((f_467 u_ v_ (by omega)).trans (m_308 u_ v_ (by omega))).trans (m_294 u_ v_ (by omega))).trans (f_8 u_ v_ (by omega))).trans (m_3 u_ v_ (by omega)))), g_468, (Tc.mk9 g_468 hsk (by omega) (by omega) (stp_w9 h_470 (by omega) (by omega)) (fst_9 (by omega)))⟩
                            · refine g_aload_n (n := 220) hx 3 (dq tX7_pass 110 rfl) rfl rfl ?_
                              refine g_getR (n := 223) hx glX7_9 (sX7_0 (by decide)) (dq tX7_pass 111 rfl) rfl ?_
                              refine g_aload_n (n := 224) hx 3 (dq tX7_pass 112 rfl) rfl rfl ?_
                              refine g_getI (n := 227) hx glX7_22 (sX7_3 (by decide)) (dq tX7_pass 113 rfl) rfl (fun h_483l h_483u => ?_)
                              refine g_iald (n := 228) (q := (M_464 7 3).toNat) hx (aX7_0 (b := 7) (by decide)) (dq tX7_pass 114 rfl) rfl (by omega) (by omega) (by omega) rfl (fun h_484l h_484u => ?_)
                              have e_485 : M_464 7 2 = M_293 7 2 := ((f_467 7 2 (by omega))).trans (m_308 7 2 (by omega))
                              have e_486 : M_464 7 4 = M_307 7 4 := (f_467 7 4 (by omega))
                              have h_487 := g_468.1
                              have h_487t : M_464 (7 + 1) ((M_464 7 3).toNat) = t9 ((M_464 7 3).toNat) := g_468.2 ((M_464 7 3).toNat) (by omega)
                              refine g_iload_n (n := 229) hx 1 (dq tX7_pass 115 rfl) rfl rfl ?_
                              refine g_icmp_lt (n := 232) (t := 258) hx (dq tX7_pass 116 rfl) (by decide) rfl (zrI h_484l h_484u (by decide) (by decide)) ⟨by decide, by decide⟩ (fun c_488 => ?_) (fun c_488 => ?_)
                              · exact g_vret hx hr (dq tX7_pass 131 rfl) ⟨(fun u_ v_ huv_ => (((((f_467 u_ v_ (by omega)).trans (m_308 u_ v_ (by omega))).trans (m_294 u_ v_ (by omega))).trans (f_8 u_ v_ (by omega))).trans (m_3 u_ v_ (by omega)))), g_468, (Tc.mk9 g_468 hsk (by omega) (by omega) (stp_w9 h_470 (by omega) (by omega)) (fst_9 (by omega)))⟩
                              · refine g_aload_n (n := 233) hx 3 (dq tX7_pass 117 rfl) rfl rfl ?_
                                refine g_getR (n := 236) hx glX7_9 (sX7_0 (by decide)) (dq tX7_pass 118 rfl) rfl ?_
                                refine g_aload_n (n := 237) hx 3 (dq tX7_pass 119 rfl) rfl rfl ?_
                                refine g_getI (n := 240) hx glX7_22 (sX7_3 (by decide)) (dq tX7_pass 120 rfl) rfl (fun h_489l h_489u => ?_)
                                refine g_iald (n := 241) (q := (M_464 7 3).toNat) hx (aX7_0 (b := 7) (by decide)) (dq tX7_pass 121 rfl) rfl (by omega) (by omega) (by omega) rfl (fun h_490l h_490u => ?_)
                                have h_491 := g_468.1
                                have h_491t : M_464 (7 + 1) ((M_464 7 3).toNat) = t9 ((M_464 7 3).toNat) := g_468.2 ((M_464 7 3).toNat) (by omega)
                                refine g_iload_n (n := 242) hx 0 (dq tX7_pass 122 rfl) rfl rfl ?_
                                refine g_icmp_gt (n := 245) (t := 258) hx (dq tX7_pass 123 rfl) (by decide) rfl (zrI h_490l h_490u (by decide) (by decide)) ⟨by decide, by decide⟩ (fun c_492 => ?_) (fun c_492 => ?_)
                                · exact g_vret hx hr (dq tX7_pass 131 rfl) ⟨(fun u_ v_ huv_ => (((((f_467 u_ v_ (by omega)).trans (m_308 u_ v_ (by omega))).trans (m_294 u_ v_ (by omega))).trans (f_8 u_ v_ (by omega))).trans (m_3 u_ v_ (by omega)))), g_468, (Tc.mk9 g_468 hsk (by omega) (by omega) (stp_w9 h_470 (by omega) (by omega)) (fst_9 (by omega)))⟩
                                · refine g_aload_n (n := 246) hx 3 (dq tX7_pass 124 rfl) rfl rfl ?_
                                  refine g_dup (n := 247) hx (dq tX7_pass 125 rfl) rfl rfl ?_
                                  refine g_getI (n := 250) hx glX7_22 (sX7_3 (by decide)) (dq tX7_pass 126 rfl) rfl (fun h_493l h_493u => ?_)
                                  refine g_iconst (n := 251) hx (dq tX7_pass 127 rfl) rfl ?_
                                  refine g_iadd (n := 252) hx (dq tX7_pass 128 rfl) rfl ?_
                                  refine g_putI (n := 255) hx plX7_22 (sX7_3 (by decide)) (dq tX7_pass 129 rfl) rfl (by omega) (by omega) (fun M_494 m_495e m_495 => ?_)
                                  have g_496 : Tx M_494 t9 n9 := Tx.frame g_468 (fun c j hcj => m_495 c j (by omega))
                                  refine g_goto (n := 200) hx (dq tX7_pass 130 rfl) (by decide) ?_
                                  have e_497 : M_494 7 1 = M_464 7 1 := (m_495 7 1 (by omega))
                                  have e_498 : M_494 7 2 = M_464 7 2 := (m_495 7 2 (by omega))
                                  have e_499 : M_494 7 4 = M_464 7 4 := (m_495 7 4 (by omega))
                                  exact ih_466 _ (by omega) M_494 (fun u_ v_ huv_ => ((m_495 u_ v_ (by omega)).trans (f_467 u_ v_ (by omega)))) g_496 (by rw [show (M_494 7 3).toNat = (M_464 7 3).toNat + 1 by omega, ← wh_go (t := t9) (n := n9) (lo := 97) (hi := 122) (a := (M_464 7 3).toNat) (by omega) (by omega) (by omega)]; exact h_470) (by omega) (by omega) rfl
                      have e_500 : M_307 7 2 = M_293 7 2 := (m_308 7 2 (by omega))
                      exact L_465 _ M_307 (fun _ _ _ => rfl) g_309 (by rw [show (M_307 7 3).toNat = a9 + 1 by omega]; exact stp_let (by omega) (by omega) (by omega)) (by omega) (by omega) rfl
                · refine g_bipush (n := 135) hx (dq tX7_pass 66 rfl) rfl (by decide) ?_
                  refine g_istore_n (n := 136) (lv' := [(1, vI 61), (3, vI (M_307 7 1)), (2, vI 256), (0, aR Γ 7)]) hx (dq tX7_pass 67 rfl) (by decide) rfl rfl ?_
                  refine g_bipush (n := 138) hx (dq tX7_pass 68 rfl) rfl (by decide) ?_
                  refine g_istore_n (n := 139) (lv' := [(2, vI 61), (1, vI 61), (3, vI (M_307 7 1)), (0, aR Γ 7)]) hx (dq tX7_pass 69 rfl) (by decide) rfl rfl ?_
                  refine g_aload_n (n := 140) hx 3 (dq tX7_pass 70 rfl) rfl rfl ?_
                  refine g_getI (n := 143) hx glX7_28 (sX7_2 (by decide)) (dq tX7_pass 71 rfl) rfl (fun h_501l h_501u => ?_)
                  have e_502 : M_307 7 2 = M_293 7 2 := (m_308 7 2 (by omega))
                  refine g_iconst (n := 144) hx (dq tX7_pass 72 rfl) rfl ?_
                  refine g_iadd (n := 145) hx (dq tX7_pass 73 rfl) rfl ?_
                  refine g_istore_n (n := 146) (lv' := [(3, vI ((M_307 7 2) + 2)), (2, vI 61), (1, vI 61), (0, aR Γ 7)]) hx (dq tX7_pass 74 rfl) (by decide) rfl rfl ?_
                  refine g_goto (n := 200) hx (dq tX7_pass 75 rfl) (by decide) ?_
                  have L_504 : ∀ (n_ : Nat) (M_503 : zM), (∀ u_ v_, (u_ ≠ 7 ∨ v_ ≠ 3) → M_503 u_ v_ = M_307 u_ v_) → (Tx M_503 t9 n9) → (wh t9 (min n9 (a9 + 2)) 61 61 (M_503 7 3).toNat = stp t9 n9 a9) → (M_503 7 3 ≤ n9) → (M_307 7 2 ≤ M_503 7 3) → ((400 - M_503 7 3).toNat = n_) → G Γ x 4 (QV Γ x (qctX7_pass2 M t9 n9 s9)) M_503 200 [(3, vI ((M_307 7 2) + 2)), (2, vI 61), (1, vI 61), (0, aR Γ 7)] [] := by
                    intro n_
                    induction n_ using Nat.strongRecOn with
                    | _ n_ ih_505 =>
                      intro M_503 f_506 g_507 h_509 h_510 h_511 hm_508
                      refine g_aload_n (n := 201) hx 3 (dq tX7_pass 101 rfl) rfl rfl ?_
                      refine g_getI (n := 204) hx glX7_22 (sX7_3 (by decide)) (dq tX7_pass 102 rfl) rfl (fun h_512l h_512u => ?_)
                      refine g_aload_n (n := 205) hx 3 (dq tX7_pass 103 rfl) rfl rfl ?_
                      refine g_getI (n := 208) hx glX7_15 (sX7_1 (by decide)) (dq tX7_pass 104 rfl) rfl (fun h_513l h_513u => ?_)
                      have e_514 : M_503 7 1 = M_307 7 1 := (f_506 7 1 (by omega))
                      refine g_icmp_ge (n := 211) (t := 258) hx (dq tX7_pass 105 rfl) (by decide) rfl (zrI h_512l h_512u (by decide) (by decide)) (zrI h_513l h_513u (by decide) (by decide)) (fun c_515 => ?_) (fun c_515 => ?_)
                      · have e_516 : M_503 7 2 = M_307 7 2 := (f_506 7 2 (by omega))
                        have e_517 : M_503 7 4 = M_307 7 4 := (f_506 7 4 (by omega))
                        exact g_vret hx hr (dq tX7_pass 131 rfl) ⟨(fun u_ v_ huv_ => (((((f_506 u_ v_ (by omega)).trans (m_308 u_ v_ (by omega))).trans (m_294 u_ v_ (by omega))).trans (f_8 u_ v_ (by omega))).trans (m_3 u_ v_ (by omega)))), g_507, (Tc.mk9 g_507 hsk (by omega) (by omega) (stp_w9 h_509 (by omega) (by omega)) (fst_9 (by omega)))⟩
                      · refine g_aload_n (n := 212) hx 3 (dq tX7_pass 106 rfl) rfl rfl ?_
                        refine g_getI (n := 215) hx glX7_22 (sX7_3 (by decide)) (dq tX7_pass 107 rfl) rfl (fun h_518l h_518u => ?_)
                        refine g_iload_n (n := 216) hx 0 (dq tX7_pass 108 rfl) rfl rfl ?_
                        refine g_icmp_ge (n := 219) (t := 258) hx (dq tX7_pass 109 rfl) (by decide) rfl (zrI h_518l h_518u (by decide) (by decide)) ⟨by omega, by omega⟩ (fun c_519 => ?_) (fun c_519 => ?_)
                        · have e_520 : M_503 7 2 = M_307 7 2 := (f_506 7 2 (by omega))
                          have e_521 : M_503 7 4 = M_307 7 4 := (f_506 7 4 (by omega))
                          exact g_vret hx hr (dq tX7_pass 131 rfl) ⟨(fun u_ v_ huv_ => (((((f_506 u_ v_ (by omega)).trans (m_308 u_ v_ (by omega))).trans (m_294 u_ v_ (by omega))).trans (f_8 u_ v_ (by omega))).trans (m_3 u_ v_ (by omega)))), g_507, (Tc.mk9 g_507 hsk (by omega) (by omega) (stp_w9 h_509 (by omega) (by omega)) (fst_9 (by omega)))⟩
                        · refine g_aload_n (n := 220) hx 3 (dq tX7_pass 110 rfl) rfl rfl ?_
                          refine g_getR (n := 223) hx glX7_9 (sX7_0 (by decide)) (dq tX7_pass 111 rfl) rfl ?_
                          refine g_aload_n (n := 224) hx 3 (dq tX7_pass 112 rfl) rfl rfl ?_
                          refine g_getI (n := 227) hx glX7_22 (sX7_3 (by decide)) (dq tX7_pass 113 rfl) rfl (fun h_522l h_522u => ?_)
                          refine g_iald (n := 228) (q := (M_503 7 3).toNat) hx (aX7_0 (b := 7) (by decide)) (dq tX7_pass 114 rfl) rfl (by omega) (by omega) (by omega) rfl (fun h_523l h_523u => ?_)
                          have e_524 : M_503 7 2 = M_307 7 2 := (f_506 7 2 (by omega))
                          have e_525 : M_503 7 4 = M_307 7 4 := (f_506 7 4 (by omega))
                          have h_526 := g_507.1
                          have h_526t : M_503 (7 + 1) ((M_503 7 3).toNat) = t9 ((M_503 7 3).toNat) := g_507.2 ((M_503 7 3).toNat) (by omega)
                          refine g_iload_n (n := 229) hx 2 (dq tX7_pass 115 rfl) rfl rfl ?_
                          refine g_icmp_lt (n := 232) (t := 258) hx (dq tX7_pass 116 rfl) (by decide) rfl (zrI h_523l h_523u (by decide) (by decide)) ⟨by decide, by decide⟩ (fun c_527 => ?_) (fun c_527 => ?_)
                          · exact g_vret hx hr (dq tX7_pass 131 rfl) ⟨(fun u_ v_ huv_ => (((((f_506 u_ v_ (by omega)).trans (m_308 u_ v_ (by omega))).trans (m_294 u_ v_ (by omega))).trans (f_8 u_ v_ (by omega))).trans (m_3 u_ v_ (by omega)))), g_507, (Tc.mk9 g_507 hsk (by omega) (by omega) (stp_w9 h_509 (by omega) (by omega)) (fst_9 (by omega)))⟩
                          · refine g_aload_n (n := 233) hx 3 (dq tX7_pass 117 rfl) rfl rfl ?_
                            refine g_getR (n := 236) hx glX7_9 (sX7_0 (by decide)) (dq tX7_pass 118 rfl) rfl ?_
                            refine g_aload_n (n := 237) hx 3 (dq tX7_pass 119 rfl) rfl rfl ?_
                            refine g_getI (n := 240) hx glX7_22 (sX7_3 (by decide)) (dq tX7_pass 120 rfl) rfl (fun h_528l h_528u => ?_)
                            refine g_iald (n := 241) (q := (M_503 7 3).toNat) hx (aX7_0 (b := 7) (by decide)) (dq tX7_pass 121 rfl) rfl (by omega) (by omega) (by omega) rfl (fun h_529l h_529u => ?_)
                            have h_530 := g_507.1
                            have h_530t : M_503 (7 + 1) ((M_503 7 3).toNat) = t9 ((M_503 7 3).toNat) := g_507.2 ((M_503 7 3).toNat) (by omega)
                            refine g_iload_n (n := 242) hx 1 (dq tX7_pass 122 rfl) rfl rfl ?_
                            refine g_icmp_gt (n := 245) (t := 258) hx (dq tX7_pass 123 rfl) (by decide) rfl (zrI h_529l h_529u (by decide) (by decide)) ⟨by decide, by decide⟩ (fun c_531 => ?_) (fun c_531 => ?_)
                            · exact g_vret hx hr (dq tX7_pass 131 rfl) ⟨(fun u_ v_ huv_ => (((((f_506 u_ v_ (by omega)).trans (m_308 u_ v_ (by omega))).trans (m_294 u_ v_ (by omega))).trans (f_8 u_ v_ (by omega))).trans (m_3 u_ v_ (by omega)))), g_507, (Tc.mk9 g_507 hsk (by omega) (by omega) (stp_w9 h_509 (by omega) (by omega)) (fst_9 (by omega)))⟩
                            · refine g_aload_n (n := 246) hx 3 (dq tX7_pass 124 rfl) rfl rfl ?_
                              refine g_dup (n := 247) hx (dq tX7_pass 125 rfl) rfl rfl ?_
                              refine g_getI (n := 250) hx glX7_22 (sX7_3 (by decide)) (dq tX7_pass 126 rfl) rfl (fun h_532l h_532u => ?_)
                              refine g_iconst (n := 251) hx (dq tX7_pass 127 rfl) rfl ?_
                              refine g_iadd (n := 252) hx (dq tX7_pass 128 rfl) rfl ?_
                              refine g_putI (n := 255) hx plX7_22 (sX7_3 (by decide)) (dq tX7_pass 129 rfl) rfl (by omega) (by omega) (fun M_533 m_534e m_534 => ?_)
                              have g_535 : Tx M_533 t9 n9 := Tx.frame g_507 (fun c j hcj => m_534 c j (by omega))
                              refine g_goto (n := 200) hx (dq tX7_pass 130 rfl) (by decide) ?_
                              have e_536 : M_533 7 1 = M_503 7 1 := (m_534 7 1 (by omega))
                              have e_537 : M_533 7 2 = M_503 7 2 := (m_534 7 2 (by omega))
                              have e_538 : M_533 7 4 = M_503 7 4 := (m_534 7 4 (by omega))
                              exact ih_505 _ (by omega) M_533 (fun u_ v_ huv_ => ((m_534 u_ v_ (by omega)).trans (f_506 u_ v_ (by omega)))) g_535 (by rw [show (M_533 7 3).toNat = (M_503 7 3).toNat + 1 by omega, ← wh_go (t := t9) (n := (min n9 (a9 + 2))) (lo := 61) (hi := 61) (a := (M_503 7 3).toNat) (by omega) (by omega) (by omega)]; exact h_509) (by omega) (by omega) rfl
                  exact L_504 _ M_307 (fun _ _ _ => rfl) g_309 (by rw [show (M_307 7 3).toNat = a9 + 1 by omega]; exact stp_ang (by omega) (by omega)) (by omega) (by omega) rfl
            refine g_icmp_ge (n := 86) (t := 95) hx (dq tX7_pass 42 rfl) (by decide) rfl (zrI h_296l h_296u (by decide) (by decide)) (zrI h_298l h_298u (by decide) (by decide)) (fun c_300 => ?_) (fun c_300 => ?_)
            · refine g_aload_n (n := 96) hx 0 (dq tX7_pass 48 rfl) rfl rfl ?_
              refine g_getI (n := 99) hx glX7_15 (sX7_1 (by decide)) (dq tX7_pass 49 rfl) rfl (fun h_539l h_539u => ?_)
              exact J_302 (M_293 7 1) (by omega) (by omega) (by first | assumption | omega)
            · refine g_aload_n (n := 87) hx 0 (dq tX7_pass 43 rfl) rfl rfl ?_
              refine g_getI (n := 90) hx glX7_28 (sX7_2 (by decide)) (dq tX7_pass 44 rfl) rfl (fun h_540l h_540u => ?_)
              refine g_iconst (n := 91) hx (dq tX7_pass 45 rfl) rfl ?_
              refine g_iadd (n := 92) hx (dq tX7_pass 46 rfl) rfl ?_
              refine g_goto (n := 99) hx (dq tX7_pass 47 rfl) (by decide) ?_
              exact J_302 ((M_293 7 2) + 1) (by omega) (by omega) (by first | assumption | omega)
          refine g_icmp_ge (n := 58) (t := 70) hx (dq tX7_pass 28 rfl) (by decide) rfl (zrI h_285l h_285u (by decide) (by decide)) (zrI h_286l h_286u (by decide) (by decide)) (fun c_287 => ?_) (fun c_287 => ?_)
          · refine g_iconst (n := 71) hx (dq tX7_pass 35 rfl) rfl ?_
            exact J_289 (-1) (by omega) (by omega) (by first | assumption | omega)
          · refine g_aload_n (n := 59) hx 0 (dq tX7_pass 29 rfl) rfl rfl ?_
            refine g_getR (n := 62) hx glX7_9 (sX7_0 (by decide)) (dq tX7_pass 30 rfl) rfl ?_
            refine g_aload_n (n := 63) hx 0 (dq tX7_pass 31 rfl) rfl rfl ?_
            refine g_getI (n := 66) hx glX7_28 (sX7_2 (by decide)) (dq tX7_pass 32 rfl) rfl (fun h_541l h_541u => ?_)
            refine g_iald (n := 67) (q := (M_5 7 2).toNat) hx (aX7_0 (b := 7) (by decide)) (dq tX7_pass 33 rfl) rfl (by omega) (by omega) (by omega) rfl (fun h_542l h_542u => ?_)
            have h_543 := g_9.1
            have h_543t : M_5 (7 + 1) ((M_5 7 2).toNat) = t9 ((M_5 7 2).toNat) := g_9.2 ((M_5 7 2).toNat) (by omega)
            have h_543a : t9 ((M_5 7 2).toNat) = t9 a9 := congrArg t9 (by omega)
            refine g_goto (n := 71) hx (dq tX7_pass 34 rfl) (by decide) ?_
            exact J_289 (M_5 (7 + 1) ((M_5 7 2).toNat)) (by omega) (by omega) (by first | assumption | omega)
        · refine g_aload_n (n := 34) hx 0 (dq tX7_pass 16 rfl) rfl rfl ?_
          refine g_dup (n := 35) hx (dq tX7_pass 17 rfl) rfl rfl ?_
          refine g_getI (n := 38) hx glX7_28 (sX7_2 (by decide)) (dq tX7_pass 18 rfl) rfl (fun h_544l h_544u => ?_)
          refine g_iconst (n := 39) hx (dq tX7_pass 19 rfl) rfl ?_
          refine g_iadd (n := 40) hx (dq tX7_pass 20 rfl) rfl ?_
          refine g_putI (n := 43) hx plX7_28 (sX7_2 (by decide)) (dq tX7_pass 21 rfl) rfl (by omega) (by omega) (fun M_545 m_546e m_546 => ?_)
          have g_547 : Tx M_545 t9 n9 := Tx.frame g_9 (fun c j hcj => m_546 c j (by omega))
          refine g_goto (n := 8) hx (dq tX7_pass 22 rfl) (by decide) ?_
          have e_548 : M_545 7 1 = M_5 7 1 := (m_546 7 1 (by omega))
          have e_549 : M_545 7 3 = M_5 7 3 := (m_546 7 3 (by omega))
          have e_550 : M_545 7 4 = M_5 7 4 := (m_546 7 4 (by omega))
          exact ih_7 _ (by omega) M_545 (fun u_ v_ huv_ => ((m_546 u_ v_ (by omega)).trans (f_8 u_ v_ (by omega)))) g_547 (by rw [show (M_545 7 2).toNat = (M_5 7 2).toNat + 1 by omega, ← wh_go (t := t9) (n := n9) (lo := 32) (hi := 32) (a := (M_5 7 2).toNat) (by omega) (by omega) (by omega)]; exact h_11) (by omega) (by omega) rfl
  have e_551 : M_2 7 1 = M 7 1 := (m_3 7 1 (by omega))
  have e_552 : M_2 7 3 = M 7 3 := (m_3 7 3 (by omega))
  have e_553 : M_2 7 4 = M 7 4 := (m_3 7 4 (by omega))
  exact L_6 _ M_2 (fun _ _ _ => rfl) g_4 (by rw [show (M_2 7 2).toNat = s9 by omega]) (by omega) (by omega) rfl
