abbrev qctX10_elects (M : zM)  (M' : zM) : Prop := (∀ u_ v_, u_ ≠ 229 + 48 ∧ u_ ≠ 229 + 17 → M' u_ v_ = M u_ v_) ∧ Gm M' ∧ Rl M' ∧ (On M')
set_option maxHeartbeats 4000000 in
set_option maxRecDepth 100000 in
theorem ctX10_elects (Γ : Gam) (M : zM)  (gm : Gm M) (rl : Rl M) : CtV Γ yX10_elects cX10_elects 4 none 7 166 [aR Γ 229] M (qctX10_elects M) := by
  refine met_v (by decide) (Nat.le_of_ble_eq_true rfl) (fun x hx hr => ?_)
  show G Γ x 4 (QV Γ x (qctX10_elects M)) M 0 [(0, aR Γ 229)] []
  refine g_aload_n (n := 1) hx 0 (dq tX10_elects 0 rfl) rfl rfl ?_
  refine g_getR (n := 4) hx glX10_9 (sX10_1 (by decide)) (dq tX10_elects 1 rfl) rfl ?_
  refine g_bipush (n := 6) hx (dq tX10_elects 2 rfl) rfl (by decide) ?_
  refine g_ialdX (n := 7) (q := 15) hx (aX10_1 (b := 229) (by decide)) (dq tX10_elects 3 rfl) rfl (by decide) (by decide) (by decide) rfl (fun h_1l h_1u => ?_)
  have h_1l : (-1) ≤ M (229 + 1) 15 := h_1l
  have h_1u : M (229 + 1) 15 ≤ 5 := h_1u
  have h_2 := Rl.force rl
  refine g_istore_n (n := 8) (lv' := [(1, vI (M (229 + 1) 15)), (0, aR Γ 229)]) hx (dq tX10_elects 4 rfl) (by decide) rfl rfl ?_
  refine g_iconst (n := 9) hx (dq tX10_elects 5 rfl) rfl ?_
  refine g_istore_n (n := 10) (lv' := [(2, vI 0), (1, vI (M (229 + 1) 15)), (0, aR Γ 229)]) hx (dq tX10_elects 6 rfl) (by decide) rfl rfl ?_
  have L_5 : ∀ (n_ : Nat) (i_3 : Int) (M_4 : zM), (0 ≤ i_3) → (i_3 ≤ 12) → (∀ u_ v_, u_ ≠ 229 + 48 → M_4 u_ v_ = M u_ v_) → (Gm M_4) → (Rl M_4) → ((12 - i_3).toNat = n_) → G Γ x 4 (QV Γ x (qctX10_elects M)) M_4 10 [(2, vI i_3), (1, vI (M (229 + 1) 15)), (0, aR Γ 229)] [] := by
    intro n_
    induction n_ using Nat.strongRecOn with
    | _ n_ ih_6 =>
      intro i_3 M_4 h_11 h_12 f_7 g_8 g_9 hm_10
      refine g_iload_n (n := 11) hx 0 (dq tX10_elects 7 rfl) rfl rfl ?_
      refine g_aload_n (n := 12) hx 2 (dq tX10_elects 8 rfl) rfl rfl ?_
      refine g_getR (n := 15) hx glX10_9 (sX10_1 (by decide)) (dq tX10_elects 9 rfl) rfl ?_
      refine g_iconst (n := 16) hx (dq tX10_elects 10 rfl) rfl ?_
      refine g_ialdX (n := 17) (q := 3) hx (aX10_1 (b := 229) (by decide)) (dq tX10_elects 11 rfl) rfl (by decide) (by decide) (by decide) rfl (fun h_13l h_13u => ?_)
      have h_13l : 0 ≤ M_4 (229 + 1) 3 := h_13l
      have h_13u : M_4 (229 + 1) 3 ≤ 12 := h_13u
      have e_14 : M_4 (229 + 1) 3 = M (229 + 1) 3 := (f_7 (229 + 1) 3 (by omega))
      refine g_icmp_ge (n := 20) (t := 136) hx (dq tX10_elects 12 rfl) (by decide) rfl ⟨by omega, by omega⟩ (zrI h_13l h_13u (by decide) (by decide)) (fun c_15 => ?_) (fun c_15 => ?_)
      · refine g_iv (fun hI_16 => ?_)
        have hI_163 : (0 : Int) ≤ M_4 (229 + 1) 3 ∧ M_4 (229 + 1) 3 ≤ 12 := hI_16 230 3
        clear hI_16
        refine g_iconst (n := 137) hx (dq tX10_elects 83 rfl) rfl ?_
        refine g_istore_n (n := 138) (lv' := [(2, vI 0), (1, vI (M (229 + 1) 15)), (0, aR Γ 229)]) hx (dq tX10_elects 84 rfl) (by decide) rfl rfl ?_
        have L_19 : ∀ (n_ : Nat) (i_17 : Int) (M_18 : zM), (0 ≤ i_17) → (i_17 ≤ 12) → (∀ u_ v_, u_ ≠ 229 + 17 → M_18 u_ v_ = M_4 u_ v_) → (Gm M_18) → (Rl M_18) → (Ol M_18 i_17) → (i_17 ≤ M_18 (229 + 1) 3) → ((12 - i_17).toNat = n_) → G Γ x 4 (QV Γ x (qctX10_elects M)) M_18 138 [(2, vI i_17), (1, vI (M (229 + 1) 15)), (0, aR Γ 229)] [] := by
          intro n_
          induction n_ using Nat.strongRecOn with
          | _ n_ ih_20 =>
            intro i_17 M_18 h_27 h_28 f_21 g_22 g_23 h_25 h_26 hm_24
            refine g_iload_n (n := 139) hx 0 (dq tX10_elects 85 rfl) rfl rfl ?_
            refine g_aload_n (n := 140) hx 2 (dq tX10_elects 86 rfl) rfl rfl ?_
            refine g_getR (n := 143) hx glX10_9 (sX10_1 (by decide)) (dq tX10_elects 87 rfl) rfl ?_
            refine g_iconst (n := 144) hx (dq tX10_elects 88 rfl) rfl ?_
            refine g_ialdX (n := 145) (q := 3) hx (aX10_1 (b := 229) (by decide)) (dq tX10_elects 89 rfl) rfl (by decide) (by decide) (by decide) rfl (fun h_29l h_29u => ?_)
            have h_29l : 0 ≤ M_18 (229 + 1) 3 := h_29l
            have h_29u : M_18 (229 + 1) 3 ≤ 12 := h_29u
            have e_30 : M_18 (229 + 1) 3 = M_4 (229 + 1) 3 := (f_21 (229 + 1) 3 (by omega))
            refine g_icmp_ge (n := 148) (t := 254) hx (dq tX10_elects 90 rfl) (by decide) rfl ⟨by omega, by omega⟩ (zrI h_29l h_29u (by decide) (by decide)) (fun c_31 => ?_) (fun c_31 => ?_)
            · have e_32 : M_18 (229 + 1) 1 = M (229 + 1) 1 := ((f_21 (229 + 1) 1 (by omega))).trans (f_7 (229 + 1) 1 (by omega))
              have e_33 : M_18 229 41 = M 229 41 := ((f_21 229 41 (by omega))).trans (f_7 229 41 (by omega))
              exact g_vret hx hr (dq tX10_elects 157 rfl) ⟨(fun u_ v_ huv_ => ((f_21 u_ v_ (by omega)).trans (f_7 u_ v_ (by omega)))), g_22, g_23, (Ol.on h_25 (by omega))⟩
            · refine g_iload_n (n := 149) hx 0 (dq tX10_elects 91 rfl) rfl rfl ?_
              refine g_istore_n (n := 150) (lv' := [(3, vI i_17), (2, vI i_17), (1, vI (M (229 + 1) 15)), (0, aR Γ 229)]) hx (dq tX10_elects 92 rfl) (by decide) rfl rfl ?_
              have L_36 : ∀ (n_ : Nat) (i_34 : Int) (M_35 : zM), (0 ≤ i_34) → (i_34 ≤ 11) → (∀ u_ v_, u_ ≠ 229 + 17 → M_35 u_ v_ = M_18 u_ v_) → (Gm M_35) → (Rl M_35) → (Oh M_35 i_17 i_34) → (i_34 ≤ i_17) → (i_17 < M_35 (229 + 1) 3) → ((i_34 - 0).toNat = n_) → G Γ x 4 (QV Γ x (qctX10_elects M)) M_35 150 [(3, vI i_34), (2, vI i_17), (1, vI (M (229 + 1) 15)), (0, aR Γ 229)] [] := by
                intro n_
                induction n_ using Nat.strongRecOn with
                | _ n_ ih_37 =>
                  intro i_34 M_35 h_45 h_46 f_38 g_39 g_40 h_42 h_43 h_44 hm_41
                  refine g_iload_n (n := 151) hx 0 (dq tX10_elects 93 rfl) rfl rfl ?_
                  refine g_if_le (n := 154) (t := 241) hx (dq tX10_elects 94 rfl) (by decide) rfl ⟨by omega, by omega⟩ (fun c_47 => ?_) (fun c_47 => ?_)
                  · refine g_aload_n (n := 242) hx 3 (dq tX10_elects 150 rfl) rfl rfl ?_
                    refine g_getR (n := 245) hx glX10_58 (sX10_17 (by decide)) (dq tX10_elects 151 rfl) rfl ?_
                    refine g_iload_n (n := 246) hx 0 (dq tX10_elects 152 rfl) rfl rfl ?_
                    refine g_iload_n (n := 247) hx 1 (dq tX10_elects 153 rfl) rfl rfl ?_
                    have e_48 : M_35 (229 + 1) 1 = M (229 + 1) 1 := (((f_38 (229 + 1) 1 (by omega))).trans (f_21 (229 + 1) 1 (by omega))).trans (f_7 (229 + 1) 1 (by omega))
                    have e_49 : M_35 (229 + 1) 3 = M_18 (229 + 1) 3 := (f_38 (229 + 1) 3 (by omega))
                    have e_50 : M_35 229 41 = M 229 41 := (((f_38 229 41 (by omega))).trans (f_21 229 41 (by omega))).trans (f_7 229 41 (by omega))
                    refine g_iast (n := 248) (q := i_34.toNat) hx (aX10_17 (b := 229) (by decide)) (dq tX10_elects 154 rfl) rfl (by omega) (by omega) (by omega) rfl (by omega) (by omega) (fun M_51 m_52e m_52 => ?_)
                    have g_53 := Gm.order g_39 m_52e m_52 (by omega)
                    have g_54 : Rl M_51 := Rl.frame g_40 (fun c j hcj => m_52 c j (by omega))
                    refine g_iinc (n := 251) (lv' := [(2, vI (i_17 + 1)), (3, vI i_34), (1, vI (M (229 + 1) 15)), (0, aR Γ 229)]) hx 1 (dq tX10_elects 155 rfl) rfl (by decide) rfl rfl ?_
                    refine g_goto (n := 138) hx (dq tX10_elects 156 rfl) (by decide) ?_
                    have e_55 : M_51 (229 + 1) 1 = M_35 (229 + 1) 1 := (m_52 (229 + 1) 1 (by omega))
                    have e_56 : M_51 (229 + 1) 3 = M_35 (229 + 1) 3 := (m_52 (229 + 1) 3 (by omega))
                    have e_57 : M_51 229 41 = M_35 229 41 := (m_52 229 41 (by omega))
                    refine g_lv [0, 2, 3] rfl ?_
                    exact ih_20 _ (by omega) (i_17 + 1) M_51 (by omega) (by omega) (fun u_ v_ huv_ => (((m_52 u_ v_ (by omega)).trans (f_38 u_ v_ (by omega))).trans (f_21 u_ v_ (by omega)))) g_53 g_54 (Oh.fin h_42 (by omega) (by omega) rfl m_52e m_52) (by omega) rfl
                  · refine g_aload_n (n := 155) hx 3 (dq tX10_elects 95 rfl) rfl rfl ?_
                    refine g_getR (n := 158) hx glX10_157 (sX10_59 (by decide)) (dq tX10_elects 96 rfl) rfl ?_
                    refine g_aload_n (n := 159) hx 3 (dq tX10_elects 97 rfl) rfl rfl ?_
                    refine g_getR (n := 162) hx glX10_58 (sX10_17 (by decide)) (dq tX10_elects 98 rfl) rfl ?_
                    refine g_iload_n (n := 163) hx 0 (dq tX10_elects 99 rfl) rfl rfl ?_
                    refine g_iconst (n := 164) hx (dq tX10_elects 100 rfl) rfl ?_
                    refine g_isub (n := 165) hx (dq tX10_elects 101 rfl) rfl ?_
                    refine g_iald (n := 166) (q := (i_34 - 1).toNat) hx (aX10_17 (b := 229) (by decide)) (dq tX10_elects 102 rfl) rfl (by omega) (by omega) (by omega) rfl (fun h_58l h_58u => ?_)
                    have e_59 : M_35 (229 + 1) 1 = M (229 + 1) 1 := (((f_38 (229 + 1) 1 (by omega))).trans (f_21 (229 + 1) 1 (by omega))).trans (f_7 (229 + 1) 1 (by omega))
                    have e_60 : M_35 (229 + 1) 3 = M_18 (229 + 1) 3 := (f_38 (229 + 1) 3 (by omega))
                    have e_61 : M_35 229 41 = M 229 41 := (((f_38 229 41 (by omega))).trans (f_21 229 41 (by omega))).trans (f_7 229 41 (by omega))
                    refine g_iv (fun h_63 => ?_)
                    have h_63v : (0 : Int) ≤ M_35 (229 + 1) 1 ∧ M_35 (229 + 1) 1 ≤ 6 := h_63 230 1
                    have h_63l : (0 : Int) ≤ M_35 (229 + 1) 3 ∧ M_35 (229 + 1) 3 ≤ 12 := h_63 230 3
                    clear h_63
                    have h_62 := g_39.2.2.2.2.1 ((i_34 - 1).toNat) (by omega)
                    refine g_iald (n := 167) (q := (M_35 (229 + 17) ((i_34 - 1).toNat)).toNat) hx (aX10_59 (b := 229) (by decide)) (dq tX10_elects 103 rfl) rfl (by omega) (by omega) (by omega) rfl (fun h_64l h_64u => ?_)
                    refine g_aload_n (n := 168) hx 3 (dq tX10_elects 104 rfl) rfl rfl ?_
                    refine g_getR (n := 171) hx glX10_157 (sX10_59 (by decide)) (dq tX10_elects 105 rfl) rfl ?_
                    refine g_iload_n (n := 172) hx 1 (dq tX10_elects 106 rfl) rfl rfl ?_
                    refine g_iald (n := 173) (q := i_17.toNat) hx (aX10_59 (b := 229) (by decide)) (dq tX10_elects 107 rfl) rfl (by omega) (by omega) (by omega) rfl (fun h_65l h_65u => ?_)
                    refine g_icmp_gt (n := 176) (t := 221) hx (dq tX10_elects 108 rfl) (by decide) rfl (zrI h_64l h_64u (by decide) (by decide)) (zrI h_65l h_65u (by decide) (by decide)) (fun c_66 => ?_) (fun c_66 => ?_)
                    · refine g_aload_n (n := 222) hx 3 (dq tX10_elects 138 rfl) rfl rfl ?_
                      refine g_getR (n := 225) hx glX10_58 (sX10_17 (by decide)) (dq tX10_elects 139 rfl) rfl ?_
                      refine g_iload_n (n := 226) hx 0 (dq tX10_elects 140 rfl) rfl rfl ?_
                      refine g_aload_n (n := 227) hx 3 (dq tX10_elects 141 rfl) rfl rfl ?_
                      refine g_getR (n := 230) hx glX10_58 (sX10_17 (by decide)) (dq tX10_elects 142 rfl) rfl ?_
                      refine g_iload_n (n := 231) hx 0 (dq tX10_elects 143 rfl) rfl rfl ?_
                      refine g_iconst (n := 232) hx (dq tX10_elects 144 rfl) rfl ?_
                      refine g_isub (n := 233) hx (dq tX10_elects 145 rfl) rfl ?_
                      refine g_iald (n := 234) (q := (i_34 - 1).toNat) hx (aX10_17 (b := 229) (by decide)) (dq tX10_elects 146 rfl) rfl (by omega) (by omega) (by omega) rfl (fun h_67l h_67u => ?_)
                      refine g_iv (fun h_69 => ?_)
                      have h_69v : (0 : Int) ≤ M_35 (229 + 1) 1 ∧ M_35 (229 + 1) 1 ≤ 6 := h_69 230 1
                      have h_69l : (0 : Int) ≤ M_35 (229 + 1) 3 ∧ M_35 (229 + 1) 3 ≤ 12 := h_69 230 3
                      clear h_69
                      have h_68 := g_39.2.2.2.2.1 ((i_34 - 1).toNat) (by omega)
                      refine g_iast (n := 235) (q := i_34.toNat) hx (aX10_17 (b := 229) (by decide)) (dq tX10_elects 147 rfl) rfl (by omega) (by omega) (by omega) rfl (by omega) (by omega) (fun M_70 m_71e m_71 => ?_)
                      have g_72 := Gm.order g_39 m_71e m_71 (by omega)
                      have g_73 : Rl M_70 := Rl.frame g_40 (fun c j hcj => m_71 c j (by omega))
                      refine g_iinc (n := 238) (lv' := [(3, vI (i_34 + (-1))), (2, vI i_17), (1, vI (M (229 + 1) 15)), (0, aR Γ 229)]) hx 0 (dq tX10_elects 148 rfl) rfl (by decide) rfl rfl ?_
                      refine g_goto (n := 150) hx (dq tX10_elects 149 rfl) (by decide) ?_
                      have e_74 : M_70 (229 + 1) 1 = M_35 (229 + 1) 1 := (m_71 (229 + 1) 1 (by omega))
                      have e_75 : M_70 (229 + 1) 3 = M_35 (229 + 1) 3 := (m_71 (229 + 1) 3 (by omega))
                      have e_76 : M_70 229 41 = M_35 229 41 := (m_71 229 41 (by omega))
                      exact ih_37 _ (by omega) (i_34 + (-1)) M_70 (by omega) (by omega) (fun u_ v_ huv_ => ((m_71 u_ v_ (by omega)).trans (f_38 u_ v_ (by omega)))) g_72 g_73 (Oh.go h_42 (by omega) (by omega) (by omega) m_71e m_71) (by omega) (by omega) rfl
                    · refine g_aload_n (n := 177) hx 3 (dq tX10_elects 109 rfl) rfl rfl ?_
                      refine g_getR (n := 180) hx glX10_157 (sX10_59 (by decide)) (dq tX10_elects 110 rfl) rfl ?_
                      refine g_aload_n (n := 181) hx 3 (dq tX10_elects 111 rfl) rfl rfl ?_
                      refine g_getR (n := 184) hx glX10_58 (sX10_17 (by decide)) (dq tX10_elects 112 rfl) rfl ?_
                      refine g_iload_n (n := 185) hx 0 (dq tX10_elects 113 rfl) rfl rfl ?_
                      refine g_iconst (n := 186) hx (dq tX10_elects 114 rfl) rfl ?_
                      refine g_isub (n := 187) hx (dq tX10_elects 115 rfl) rfl ?_
                      refine g_iald (n := 188) (q := (i_34 - 1).toNat) hx (aX10_17 (b := 229) (by decide)) (dq tX10_elects 116 rfl) rfl (by omega) (by omega) (by omega) rfl (fun h_77l h_77u => ?_)
                      refine g_iv (fun h_79 => ?_)
                      have h_79v : (0 : Int) ≤ M_35 (229 + 1) 1 ∧ M_35 (229 + 1) 1 ≤ 6 := h_79 230 1
                      have h_79l : (0 : Int) ≤ M_35 (229 + 1) 3 ∧ M_35 (229 + 1) 3 ≤ 12 := h_79 230 3
                      clear h_79
                      have h_78 := g_39.2.2.2.2.1 ((i_34 - 1).toNat) (by omega)
                      refine g_iald (n := 189) (q := (M_35 (229 + 17) ((i_34 - 1).toNat)).toNat) hx (aX10_59 (b := 229) (by decide)) (dq tX10_elects 117 rfl) rfl (by omega) (by omega) (by omega) rfl (fun h_80l h_80u => ?_)
                      refine g_aload_n (n := 190) hx 3 (dq tX10_elects 118 rfl) rfl rfl ?_
                      refine g_getR (n := 193) hx glX10_157 (sX10_59 (by decide)) (dq tX10_elects 119 rfl) rfl ?_
                      refine g_iload_n (n := 194) hx 1 (dq tX10_elects 120 rfl) rfl rfl ?_
                      refine g_iald (n := 195) (q := i_17.toNat) hx (aX10_59 (b := 229) (by decide)) (dq tX10_elects 121 rfl) rfl (by omega) (by omega) (by omega) rfl (fun h_81l h_81u => ?_)
                      refine g_icmp_ne (n := 198) (t := 241) hx (dq tX10_elects 122 rfl) (by decide) rfl (zrI h_80l h_80u (by decide) (by decide)) (zrI h_81l h_81u (by decide) (by decide)) (fun c_82 => ?_) (fun c_82 => ?_)
                      · refine g_aload_n (n := 242) hx 3 (dq tX10_elects 150 rfl) rfl rfl ?_
                        refine g_getR (n := 245) hx glX10_58 (sX10_17 (by decide)) (dq tX10_elects 151 rfl) rfl ?_
                        refine g_iload_n (n := 246) hx 0 (dq tX10_elects 152 rfl) rfl rfl ?_
                        refine g_iload_n (n := 247) hx 1 (dq tX10_elects 153 rfl) rfl rfl ?_
                        refine g_iast (n := 248) (q := i_34.toNat) hx (aX10_17 (b := 229) (by decide)) (dq tX10_elects 154 rfl) rfl (by omega) (by omega) (by omega) rfl (by omega) (by omega) (fun M_83 m_84e m_84 => ?_)
                        have g_85 := Gm.order g_39 m_84e m_84 (by omega)
                        have g_86 : Rl M_83 := Rl.frame g_40 (fun c j hcj => m_84 c j (by omega))
                        refine g_iinc (n := 251) (lv' := [(2, vI (i_17 + 1)), (3, vI i_34), (1, vI (M (229 + 1) 15)), (0, aR Γ 229)]) hx 1 (dq tX10_elects 155 rfl) rfl (by decide) rfl rfl ?_
                        refine g_goto (n := 138) hx (dq tX10_elects 156 rfl) (by decide) ?_
                        have e_87 : M_83 (229 + 1) 1 = M_35 (229 + 1) 1 := (m_84 (229 + 1) 1 (by omega))
                        have e_88 : M_83 (229 + 1) 3 = M_35 (229 + 1) 3 := (m_84 (229 + 1) 3 (by omega))
                        have e_89 : M_83 229 41 = M_35 229 41 := (m_84 229 41 (by omega))
                        refine g_lv [0, 2, 3] rfl ?_
                        exact ih_20 _ (by omega) (i_17 + 1) M_83 (by omega) (by omega) (fun u_ v_ huv_ => (((m_84 u_ v_ (by omega)).trans (f_38 u_ v_ (by omega))).trans (f_21 u_ v_ (by omega)))) g_85 g_86 (Oh.fin h_42 (by omega) (by omega) rfl m_84e m_84) (by omega) rfl
                      · refine g_aload_n (n := 199) hx 3 (dq tX10_elects 123 rfl) rfl rfl ?_
                        refine g_getR (n := 202) hx glX10_160 (sX10_60 (by decide)) (dq tX10_elects 124 rfl) rfl ?_
                        refine g_aload_n (n := 203) hx 3 (dq tX10_elects 125 rfl) rfl rfl ?_
                        refine g_getR (n := 206) hx glX10_58 (sX10_17 (by decide)) (dq tX10_elects 126 rfl) rfl ?_
                        refine g_iload_n (n := 207) hx 0 (dq tX10_elects 127 rfl) rfl rfl ?_
                        refine g_iconst (n := 208) hx (dq tX10_elects 128 rfl) rfl ?_
                        refine g_isub (n := 209) hx (dq tX10_elects 129 rfl) rfl ?_
                        refine g_iald (n := 210) (q := (i_34 - 1).toNat) hx (aX10_17 (b := 229) (by decide)) (dq tX10_elects 130 rfl) rfl (by omega) (by omega) (by omega) rfl (fun h_90l h_90u => ?_)
                        refine g_iv (fun h_92 => ?_)
                        have h_92v : (0 : Int) ≤ M_35 (229 + 1) 1 ∧ M_35 (229 + 1) 1 ≤ 6 := h_92 230 1
                        have h_92l : (0 : Int) ≤ M_35 (229 + 1) 3 ∧ M_35 (229 + 1) 3 ≤ 12 := h_92 230 3
                        clear h_92
                        have h_91 := g_39.2.2.2.2.1 ((i_34 - 1).toNat) (by omega)
                        refine g_lald (n := 211) hx (aX10_60 (b := 229) (by decide)) (dq tX10_elects 131 rfl) rfl (by omega) (by omega) (by omega) (fun w_93 => ?_)
                        refine g_aload_n (n := 212) hx 3 (dq tX10_elects 132 rfl) rfl rfl ?_
                        refine g_getR (n := 215) hx glX10_160 (sX10_60 (by decide)) (dq tX10_elects 133 rfl) rfl ?_
                        refine g_iload_n (n := 216) hx 1 (dq tX10_elects 134 rfl) rfl rfl ?_
                        refine g_lald (n := 217) hx (aX10_60 (b := 229) (by decide)) (dq tX10_elects 135 rfl) rfl (by omega) (by omega) (by omega) (fun w_94 => ?_)
                        refine g_lcmpU (n := 218) hx (dq tX10_elects 136 rfl) rfl (fun z_95 h_961 h_962 h_963 h_964 => ?_)
                        refine g_if_ge (n := 221) (t := 241) hx (dq tX10_elects 137 rfl) (by decide) rfl ⟨by omega, by omega⟩ (fun c_97 => ?_) (fun c_97 => ?_)
                        · refine g_aload_n (n := 242) hx 3 (dq tX10_elects 150 rfl) rfl rfl ?_
                          refine g_getR (n := 245) hx glX10_58 (sX10_17 (by decide)) (dq tX10_elects 151 rfl) rfl ?_
                          refine g_iload_n (n := 246) hx 0 (dq tX10_elects 152 rfl) rfl rfl ?_
                          refine g_iload_n (n := 247) hx 1 (dq tX10_elects 153 rfl) rfl rfl ?_
                          refine g_iast (n := 248) (q := i_34.toNat) hx (aX10_17 (b := 229) (by decide)) (dq tX10_elects 154 rfl) rfl (by omega) (by omega) (by omega) rfl (by omega) (by omega) (fun M_98 m_99e m_99 => ?_)
                          have g_100 := Gm.order g_39 m_99e m_99 (by omega)
                          have g_101 : Rl M_98 := Rl.frame g_40 (fun c j hcj => m_99 c j (by omega))
                          refine g_iinc (n := 251) (lv' := [(2, vI (i_17 + 1)), (3, vI i_34), (1, vI (M (229 + 1) 15)), (0, aR Γ 229)]) hx 1 (dq tX10_elects 155 rfl) rfl (by decide) rfl rfl ?_
                          refine g_goto (n := 138) hx (dq tX10_elects 156 rfl) (by decide) ?_
                          have e_102 : M_98 (229 + 1) 1 = M_35 (229 + 1) 1 := (m_99 (229 + 1) 1 (by omega))
                          have e_103 : M_98 (229 + 1) 3 = M_35 (229 + 1) 3 := (m_99 (229 + 1) 3 (by omega))
                          have e_104 : M_98 229 41 = M_35 229 41 := (m_99 229 41 (by omega))
                          refine g_lv [0, 2, 3] rfl ?_
                          exact ih_20 _ (by omega) (i_17 + 1) M_98 (by omega) (by omega) (fun u_ v_ huv_ => (((m_99 u_ v_ (by omega)).trans (f_38 u_ v_ (by omega))).trans (f_21 u_ v_ (by omega)))) g_100 g_101 (Oh.fin h_42 (by omega) (by omega) rfl m_99e m_99) (by omega) rfl
                        · refine g_aload_n (n := 222) hx 3 (dq tX10_elects 138 rfl) rfl rfl ?_
                          refine g_getR (n := 225) hx glX10_58 (sX10_17 (by decide)) (dq tX10_elects 139 rfl) rfl ?_
                          refine g_iload_n (n := 226) hx 0 (dq tX10_elects 140 rfl) rfl rfl ?_
                          refine g_aload_n (n := 227) hx 3 (dq tX10_elects 141 rfl) rfl rfl ?_
                          refine g_getR (n := 230) hx glX10_58 (sX10_17 (by decide)) (dq tX10_elects 142 rfl) rfl ?_
                          refine g_iload_n (n := 231) hx 0 (dq tX10_elects 143 rfl) rfl rfl ?_
                          refine g_iconst (n := 232) hx (dq tX10_elects 144 rfl) rfl ?_
                          refine g_isub (n := 233) hx (dq tX10_elects 145 rfl) rfl ?_
                          refine g_iald (n := 234) (q := (i_34 - 1).toNat) hx (aX10_17 (b := 229) (by decide)) (dq tX10_elects 146 rfl) rfl (by omega) (by omega) (by omega) rfl (fun h_105l h_105u => ?_)
                          refine g_iv (fun h_107 => ?_)
                          have h_107v : (0 : Int) ≤ M_35 (229 + 1) 1 ∧ M_35 (229 + 1) 1 ≤ 6 := h_107 230 1
                          have h_107l : (0 : Int) ≤ M_35 (229 + 1) 3 ∧ M_35 (229 + 1) 3 ≤ 12 := h_107 230 3
                          clear h_107
                          have h_106 := g_39.2.2.2.2.1 ((i_34 - 1).toNat) (by omega)
                          refine g_iast (n := 235) (q := i_34.toNat) hx (aX10_17 (b := 229) (by decide)) (dq tX10_elects 147 rfl) rfl (by omega) (by omega) (by omega) rfl (by omega) (by omega) (fun M_108 m_109e m_109 => ?_)
                          have g_110 := Gm.order g_39 m_109e m_109 (by omega)
                          have g_111 : Rl M_108 := Rl.frame g_40 (fun c j hcj => m_109 c j (by omega))
                          refine g_iinc (n := 238) (lv' := [(3, vI (i_34 + (-1))), (2, vI i_17), (1, vI (M (229 + 1) 15)), (0, aR Γ 229)]) hx 0 (dq tX10_elects 148 rfl) rfl (by decide) rfl rfl ?_
                          refine g_goto (n := 150) hx (dq tX10_elects 149 rfl) (by decide) ?_
                          have e_112 : M_108 (229 + 1) 1 = M_35 (229 + 1) 1 := (m_109 (229 + 1) 1 (by omega))
                          have e_113 : M_108 (229 + 1) 3 = M_35 (229 + 1) 3 := (m_109 (229 + 1) 3 (by omega))
                          have e_114 : M_108 229 41 = M_35 229 41 := (m_109 229 41 (by omega))
                          exact ih_37 _ (by omega) (i_34 + (-1)) M_108 (by omega) (by omega) (fun u_ v_ huv_ => ((m_109 u_ v_ (by omega)).trans (f_38 u_ v_ (by omega)))) g_110 g_111 (Oh.go h_42 (by omega) (by omega) (by omega) m_109e m_109) (by omega) (by omega) rfl
              have e_115 : M_18 (229 + 1) 1 = M (229 + 1) 1 := ((f_21 (229 + 1) 1 (by omega))).trans (f_7 (229 + 1) 1 (by omega))
              have e_116 : M_18 229 41 = M 229 41 := ((f_21 229 41 (by omega))).trans (f_7 229 41 (by omega))
              exact L_36 _ i_17 M_18 (by omega) (by omega) (fun _ _ _ => rfl) g_22 g_23 (Ol.hole h_25) (by omega) (by omega) rfl
        have e_117 : M_4 (229 + 1) 1 = M (229 + 1) 1 := (f_7 (229 + 1) 1 (by omega))
        have e_118 : M_4 229 41 = M 229 41 := (f_7 229 41 (by omega))
        exact L_19 _ 0 M_4 (by omega) (by omega) (fun _ _ _ => rfl) g_8 g_9 Ol.nil (by omega) rfl
      · refine g_aload_n (n := 21) hx 2 (dq tX10_elects 13 rfl) rfl rfl ?_
        refine g_getR (n := 24) hx glX10_157 (sX10_59 (by decide)) (dq tX10_elects 14 rfl) rfl ?_
        refine g_iload_n (n := 25) hx 0 (dq tX10_elects 15 rfl) rfl rfl ?_
        refine g_aload_n (n := 26) hx 2 (dq tX10_elects 16 rfl) rfl rfl ?_
        refine g_iload_n (n := 27) hx 0 (dq tX10_elects 17 rfl) rfl rfl ?_
        have e_119 : M_4 (229 + 1) 1 = M (229 + 1) 1 := (f_7 (229 + 1) 1 (by omega))
        have e_120 : M_4 229 41 = M 229 41 := (f_7 229 41 (by omega))
        refine g_callVi (n := 30) (As := [vI i_3]) (rest := [vI i_3, aR Γ (229 + 48)]) hx (ctX10_isThere Γ M_4 i_3 (by omega) (by omega)) mlX10_473 (obX10 (by decide)) (dq tX10_elects 18 rfl) rfl (Nat.le_of_ble_eq_true rfl) (Nat.le_of_ble_eq_true rfl) (Nat.le_of_ble_eq_true rfl) rfl (fun z_121 M_122 h_123 p_124 => ?_)
        obtain ⟨rfl, b_126⟩ := p_124
        have J_130 : ∀ (j_129 : Int),  (1 ≤ j_129) → (j_129 ≤ 2) → G Γ x 4 (QV Γ x (qctX10_elects M)) M_4 38 [(2, vI i_3), (1, vI (M (229 + 1) 15)), (0, aR Γ 229)] [vI j_129, vI i_3, aR Γ (229 + 48)] := by
          intro j_129 h_131 h_132
          refine g_iast (n := 39) (q := i_3.toNat) hx (aX10_59 (b := 229) (by decide)) (dq tX10_elects 23 rfl) rfl (by omega) (by omega) (by omega) rfl (by omega) (by omega) (fun M_133 m_134e m_134 => ?_)
          have g_135 : Gm M_133 := Gm.frame g_8 (fun c j hcj => m_134 c j (by omega))
          have g_136 : Rl M_133 := Rl.frame g_9 (fun c j hcj => m_134 c j (by omega))
          refine g_aload_n (n := 40) hx 2 (dq tX10_elects 24 rfl) rfl rfl ?_
          refine g_getR (n := 43) hx glX10_160 (sX10_60 (by decide)) (dq tX10_elects 25 rfl) rfl ?_
          refine g_iload_n (n := 44) hx 0 (dq tX10_elects 26 rfl) rfl rfl ?_
          refine g_lconst (n := 45) (z := 0) hx (dq tX10_elects 27 rfl) rfl (by decide) ?_
          refine g_last (n := 46) hx (aX10_60 (b := 229) (by decide)) (dq tX10_elects 28 rfl) rfl (by omega) (by omega) (by omega) ?_
          refine g_iload_n (n := 47) hx 1 (dq tX10_elects 29 rfl) rfl rfl ?_
          refine g_iconst (n := 48) hx (dq tX10_elects 30 rfl) rfl ?_
          refine g_icmp_eq (n := 51) (t := 130) hx (dq tX10_elects 31 rfl) (by decide) rfl (zrI h_1l h_1u (by decide) (by decide)) ⟨by decide, by decide⟩ (fun c_137 => ?_) (fun c_137 => ?_)
          · refine g_iinc (n := 133) (lv' := [(2, vI (i_3 + 1)), (1, vI (M (229 + 1) 15)), (0, aR Γ 229)]) hx 0 (dq tX10_elects 81 rfl) rfl (by decide) rfl rfl ?_
            refine g_goto (n := 10) hx (dq tX10_elects 82 rfl) (by decide) ?_
            have e_138 : M_133 (229 + 1) 1 = M_4 (229 + 1) 1 := (m_134 (229 + 1) 1 (by omega))
            have e_139 : M_133 (229 + 1) 3 = M_4 (229 + 1) 3 := (m_134 (229 + 1) 3 (by omega))
            have e_140 : M_133 229 41 = M_4 229 41 := (m_134 229 41 (by omega))
            exact ih_6 _ (by omega) (i_3 + 1) M_133 (by omega) (by omega) (fun u_ v_ huv_ => ((m_134 u_ v_ (by omega)).trans (f_7 u_ v_ (by omega)))) g_135 g_136 rfl
          · refine g_aload_n (n := 52) hx 2 (dq tX10_elects 32 rfl) rfl rfl ?_
            refine g_iload_n (n := 53) hx 0 (dq tX10_elects 33 rfl) rfl rfl ?_
            have e_141 : M_133 (229 + 1) 1 = M_4 (229 + 1) 1 := (m_134 (229 + 1) 1 (by omega))
            have e_142 : M_133 (229 + 1) 3 = M_4 (229 + 1) 3 := (m_134 (229 + 1) 3 (by omega))
            have e_143 : M_133 229 41 = M_4 229 41 := (m_134 229 41 (by omega))
            refine g_callVi (n := 56) (As := [vI i_3]) (rest := []) hx (ctX10_isThere Γ M_133 i_3 (by omega) (by omega)) mlX10_473 (obX10 (by decide)) (dq tX10_elects 34 rfl) rfl (Nat.le_of_ble_eq_true rfl) (Nat.le_of_ble_eq_true rfl) (Nat.le_of_ble_eq_true rfl) rfl (fun z_144 M_145 h_146 p_147 => ?_)
            obtain ⟨rfl, b_149⟩ := p_147
            refine g_if_eq (n := 59) (t := 130) hx (dq tX10_elects 35 rfl) (by decide) rfl h_146 (fun c_151 => ?_) (fun c_151 => ?_)
            · clear b_149
              refine g_iinc (n := 133) (lv' := [(2, vI (i_3 + 1)), (1, vI (M (229 + 1) 15)), (0, aR Γ 229)]) hx 0 (dq tX10_elects 81 rfl) rfl (by decide) rfl rfl ?_
              refine g_goto (n := 10) hx (dq tX10_elects 82 rfl) (by decide) ?_
              exact ih_6 _ (by omega) (i_3 + 1) M_133 (by omega) (by omega) (fun u_ v_ huv_ => ((m_134 u_ v_ (by omega)).trans (f_7 u_ v_ (by omega)))) g_135 g_136 rfl
            · have b_149 := b_149.resolve_left c_151
              obtain ⟨-, h_150⟩ := b_149
              refine g_aload_n (n := 60) hx 2 (dq tX10_elects 36 rfl) rfl rfl ?_
              refine g_iload_n (n := 61) hx 0 (dq tX10_elects 37 rfl) rfl rfl ?_
              refine g_iconst (n := 62) hx (dq tX10_elects 38 rfl) rfl ?_
              refine g_aload_n (n := 63) hx 2 (dq tX10_elects 39 rfl) rfl rfl ?_
              refine g_iload_n (n := 64) hx 0 (dq tX10_elects 40 rfl) rfl rfl ?_
              refine g_callVi (n := 67) (As := [vI i_3]) (rest := [vI (-1), vI i_3, aR Γ 229]) hx (ctX10_ownerOf Γ M_133 i_3 (by omega) (by omega) (by omega) g_135 g_136) mlX10_464 (obX10 (by decide)) (dq tX10_elects 41 rfl) rfl (Nat.le_of_ble_eq_true rfl) (Nat.le_of_ble_eq_true rfl) (Nat.le_of_ble_eq_true rfl) rfl (fun z_152 M_153 h_154 p_155 => ?_)
              obtain ⟨rfl, h_157, h_158⟩ := p_155
              refine g_aload_n (n := 68) hx 2 (dq tX10_elects 42 rfl) rfl rfl ?_
              refine g_iload_n (n := 69) hx 0 (dq tX10_elects 43 rfl) rfl rfl ?_
              refine g_callVi (n := 72) (As := [vI i_3]) (rest := [vI z_152, vI (-1), vI i_3, aR Γ 229]) hx (ctX10_roomAhead Γ M_133 i_3 (by omega) (by omega) (by omega) g_135) mlX10_506 (obX10 (by decide)) (dq tX10_elects 44 rfl) rfl (Nat.le_of_ble_eq_true rfl) (Nat.le_of_ble_eq_true rfl) (Nat.le_of_ble_eq_true rfl) rfl (fun z_159 M_160 h_161 p_162 => ?_)
              obtain rfl := p_162
              refine g_callVv (n := 75) (As := [vI i_3, vI (-1), vI z_152, vI z_159]) (rest := []) hx (ctX10_asks Γ M_133 i_3 (by omega) (by omega) (-1) (by decide) (by decide) z_152 (by omega) (by omega) z_159 (by omega) (by omega) (by omega) g_135) mlX10_451 (obX10 (by decide)) (dq tX10_elects 45 rfl) rfl (Nat.le_of_ble_eq_true rfl) (Nat.le_of_ble_eq_true rfl) (Nat.le_of_ble_eq_true rfl) rfl (fun M_165 p_167 => ?_)
              obtain rfl := p_167
              refine g_aload_n (n := 76) hx 2 (dq tX10_elects 46 rfl) rfl rfl ?_
              refine g_iload_n (n := 77) hx 1 (dq tX10_elects 47 rfl) rfl rfl ?_
              refine g_iconst (n := 78) hx (dq tX10_elects 48 rfl) rfl ?_
              refine g_callVi (n := 81) (As := [vI (M (229 + 1) 15), vI 3]) (rest := []) hx (ctX10_firstClause Γ M_133 (M (229 + 1) 15) (by omega) (by omega) 3 (by decide) (by decide) (by omega) g_136) mlX10_455 (obX10 (by decide)) (dq tX10_elects 49 rfl) rfl (Nat.le_of_ble_eq_true rfl) (Nat.le_of_ble_eq_true rfl) (Nat.le_of_ble_eq_true rfl) rfl (fun z_169 M_170 h_171 p_172 => ?_)
              obtain ⟨rfl, h_174, h_175, h_176⟩ := p_172
              refine g_istore_n (n := 82) (lv' := [(3, vI z_169), (2, vI i_3), (1, vI (M (229 + 1) 15)), (0, aR Γ 229)]) hx (dq tX10_elects 50 rfl) (by decide) rfl rfl ?_
              refine g_aload_n (n := 83) hx 3 (dq tX10_elects 51 rfl) rfl rfl ?_
              refine g_getR (n := 86) hx glX10_157 (sX10_59 (by decide)) (dq tX10_elects 52 rfl) rfl ?_
              refine g_iload_n (n := 87) hx 1 (dq tX10_elects 53 rfl) rfl rfl ?_
              refine g_iload_n (n := 88) hx 0 (dq tX10_elects 54 rfl) rfl rfl ?_
              refine g_iconst (n := 89) hx (dq tX10_elects 55 rfl) rfl ?_
              have J_179 : ∀ (j_178 : Int),  (0 ≤ j_178) → (j_178 ≤ 1) → G Γ x 4 (QV Γ x (qctX10_elects M)) M_133 97 [(3, vI z_169), (2, vI i_3), (1, vI (M (229 + 1) 15)), (0, aR Γ 229)] [vI j_178, vI i_3, aR Γ (229 + 48)] := by
                intro j_178 h_180 h_181
                refine g_iast (n := 98) (q := i_3.toNat) hx (aX10_59 (b := 229) (by decide)) (dq tX10_elects 60 rfl) rfl (by omega) (by omega) (by omega) rfl (by omega) (by omega) (fun M_182 m_183e m_183 => ?_)
                have g_184 : Gm M_182 := Gm.frame g_135 (fun c j hcj => m_183 c j (by omega))
                have g_185 : Rl M_182 := Rl.frame g_136 (fun c j hcj => m_183 c j (by omega))
                refine g_aload_n (n := 99) hx 3 (dq tX10_elects 61 rfl) rfl rfl ?_
                refine g_getR (n := 102) hx glX10_160 (sX10_60 (by decide)) (dq tX10_elects 62 rfl) rfl ?_
                refine g_iload_n (n := 103) hx 1 (dq tX10_elects 63 rfl) rfl rfl ?_
                refine g_iload_n (n := 104) hx 0 (dq tX10_elects 64 rfl) rfl rfl ?_
                refine g_iconst (n := 105) hx (dq tX10_elects 65 rfl) rfl ?_
                refine g_icmp_ne (n := 108) (t := 112) hx (dq tX10_elects 66 rfl) (by decide) rfl h_171 ⟨by decide, by decide⟩ (fun c_186 => ?_) (fun c_186 => ?_)
                · refine g_aload_n (n := 113) hx 3 (dq tX10_elects 69 rfl) rfl rfl ?_
                  refine g_iload_n (n := 114) hx 2 (dq tX10_elects 70 rfl) rfl rfl ?_
                  refine g_aload_n (n := 115) hx 3 (dq tX10_elects 71 rfl) rfl rfl ?_
                  refine g_getR (n := 118) hx glX10_138 (sX10_53 (by decide)) (dq tX10_elects 72 rfl) rfl ?_
                  refine g_iload_n (n := 119) hx 0 (dq tX10_elects 73 rfl) rfl rfl ?_
                  refine g_iald (n := 120) (q := z_169.toNat) hx (aX10_53 (b := 229) (by decide)) (dq tX10_elects 74 rfl) rfl (by omega) (by omega) (by omega) rfl (fun h_187l h_187u => ?_)
                  refine g_aload_n (n := 121) hx 3 (dq tX10_elects 75 rfl) rfl rfl ?_
                  refine g_getR (n := 124) hx glX10_141 (sX10_54 (by decide)) (dq tX10_elects 76 rfl) rfl ?_
                  refine g_iload_n (n := 125) hx 0 (dq tX10_elects 77 rfl) rfl rfl ?_
                  refine g_iald (n := 126) (q := z_169.toNat) hx (aX10_54 (b := 229) (by decide)) (dq tX10_elects 78 rfl) rfl (by omega) (by omega) (by omega) rfl (fun h_188l h_188u => ?_)
                  have e_189 : M_182 (229 + 1) 1 = M_133 (229 + 1) 1 := (m_183 (229 + 1) 1 (by omega))
                  have e_190 : M_182 (229 + 1) 3 = M_133 (229 + 1) 3 := (m_183 (229 + 1) 3 (by omega))
                  have e_191 : M_182 229 41 = M_133 229 41 := (m_183 229 41 (by omega))
                  refine g_callVl (n := 129) (As := [vI (M (229 + 1) 15), vI (M_182 (229 + 42) z_169.toNat), vI (M_182 (229 + 43) z_169.toNat)]) (rest := [vI i_3, aR Γ (229 + 49)]) hx (ctX10_answer Γ M_182 (M (229 + 1) 15) (by omega) (by omega) (M_182 (229 + 42) z_169.toNat) (by omega) (by omega) (M_182 (229 + 43) z_169.toNat) (by omega) (by omega) (Rl.sum g_185 (M (229 + 1) 15) z_169 (by omega) (by omega) (by omega) (by have q9 := ((m_183 (229 + 40) ((M (229 + 1) 15).toNat) (by omega)) : M_182 (229 + 40) (M (229 + 1) 15).toNat = M_133 (229 + 40) (M (229 + 1) 15).toNat); omega))) mlX10_433 (obX10 (by decide)) (dq tX10_elects 79 rfl) rfl (Nat.le_of_ble_eq_true rfl) (Nat.le_of_ble_eq_true rfl) (Nat.le_of_ble_eq_true rfl) rfl (fun z_192 M_193 p_195 => ?_)
                  obtain rfl := p_195
                  refine g_last (n := 130) hx (aX10_60 (b := 229) (by decide)) (dq tX10_elects 80 rfl) rfl (by omega) (by omega) (by omega) ?_
                  refine g_iinc (n := 133) (lv' := [(2, vI (i_3 + 1)), (3, vI z_169), (1, vI (M (229 + 1) 15)), (0, aR Γ 229)]) hx 1 (dq tX10_elects 81 rfl) rfl (by decide) rfl rfl ?_
                  refine g_goto (n := 10) hx (dq tX10_elects 82 rfl) (by decide) ?_
                  refine g_lv [0, 2, 3] rfl ?_
                  exact ih_6 _ (by omega) (i_3 + 1) M_182 (by omega) (by omega) (fun u_ v_ huv_ => (((m_183 u_ v_ (by omega)).trans (m_134 u_ v_ (by omega))).trans (f_7 u_ v_ (by omega)))) g_184 g_185 rfl
                · refine g_lconst (n := 109) (z := 0) hx (dq tX10_elects 67 rfl) rfl (by decide) ?_
                  refine g_goto (n := 129) hx (dq tX10_elects 68 rfl) (by decide) ?_
                  refine g_last (n := 130) hx (aX10_60 (b := 229) (by decide)) (dq tX10_elects 80 rfl) rfl (by omega) (by omega) (by omega) ?_
                  refine g_iinc (n := 133) (lv' := [(2, vI (i_3 + 1)), (3, vI z_169), (1, vI (M (229 + 1) 15)), (0, aR Γ 229)]) hx 1 (dq tX10_elects 81 rfl) rfl (by decide) rfl rfl ?_
                  refine g_goto (n := 10) hx (dq tX10_elects 82 rfl) (by decide) ?_
                  have e_197 : M_182 (229 + 1) 1 = M_133 (229 + 1) 1 := (m_183 (229 + 1) 1 (by omega))
                  have e_198 : M_182 (229 + 1) 3 = M_133 (229 + 1) 3 := (m_183 (229 + 1) 3 (by omega))
                  have e_199 : M_182 229 41 = M_133 229 41 := (m_183 229 41 (by omega))
                  refine g_lv [0, 2, 3] rfl ?_
                  exact ih_6 _ (by omega) (i_3 + 1) M_182 (by omega) (by omega) (fun u_ v_ huv_ => (((m_183 u_ v_ (by omega)).trans (m_134 u_ v_ (by omega))).trans (f_7 u_ v_ (by omega)))) g_184 g_185 rfl
              refine g_icmp_ne (n := 92) (t := 96) hx (dq tX10_elects 56 rfl) (by decide) rfl h_171 ⟨by decide, by decide⟩ (fun c_177 => ?_) (fun c_177 => ?_)
              · refine g_iconst (n := 97) hx (dq tX10_elects 59 rfl) rfl ?_
                exact J_179 0 (by omega) (by omega)
              · refine g_iconst (n := 93) hx (dq tX10_elects 57 rfl) rfl ?_
                refine g_goto (n := 97) hx (dq tX10_elects 58 rfl) (by decide) ?_
                exact J_179 1 (by omega) (by omega)
        refine g_if_eq (n := 33) (t := 37) hx (dq tX10_elects 19 rfl) (by decide) rfl h_123 (fun c_128 => ?_) (fun c_128 => ?_)
        · clear b_126
          refine g_iconst (n := 38) hx (dq tX10_elects 22 rfl) rfl ?_
          exact J_130 2 (by omega) (by omega)
        · have b_126 := b_126.resolve_left c_128
          obtain ⟨-, h_127⟩ := b_126
          refine g_iconst (n := 34) hx (dq tX10_elects 20 rfl) rfl ?_
          refine g_goto (n := 38) hx (dq tX10_elects 21 rfl) (by decide) ?_
          exact J_130 1 (by omega) (by omega)
  exact L_5 _ 0 M (by omega) (by omega) (fun _ _ _ => rfl) gm rl rfl
