abbrev qctX10_river2 (M : zM)  (z : Int) (M' : zM) : Prop := (∀ u_ v_, (u_ ≠ 229 ∨ v_ ≠ 37) ∧ (u_ ≠ 229 ∨ v_ ≠ 38) ∧ (u_ ≠ 229 ∨ v_ ≠ 39) ∧ (u_ ≠ 229 ∨ v_ ≠ 42) ∧ (u_ ≠ 229 ∨ v_ ≠ 43) ∧ (u_ ≠ 229 ∨ v_ ≠ 44) ∧ (u_ ≠ 229 ∨ v_ ≠ 47) ∧ (u_ ≠ 229 + 1 ∨ v_ < 0 ∨ 16 ≤ v_) ∧ (u_ < 229 + 2 ∨ 229 + 19 ≤ u_) ∧ (u_ < 229 + 29 ∨ 229 + 37 ≤ u_) → M' u_ v_ = M u_ v_) ∧ Gm M' ∧ On M' ∧ Rl M' ∧ (M' (229 + 1) 7 ≤ 9999) ∧ (M' 229 37 = 0)
set_option maxHeartbeats 4000000 in
set_option maxRecDepth 100000 in
theorem ctX10_river2 (Γ : Gam) (M : zM)  (pre0 : M (229 + 1) 7 ≤ 9999) (gm : Gm M) (on : On M) (rl : Rl M) : CtI Γ yX10_river cX10_river 3 (some .int) 7 159 [aR Γ 229] M (qctX10_river2 M) := by
  refine met_i (by decide) (Nat.le_of_ble_eq_true rfl) (fun x hx hr => ?_)
  show G Γ x 3 (QI Γ x (qctX10_river2 M)) M 0 [(0, aR Γ 229)] []
  refine g_iv (fun hI0 => ?_)
  have hI_37 : (0 : Int) ≤ M 229 37 ∧ M 229 37 ≤ 400 := hI0 229 37
  have hI_38 : (0 : Int) ≤ M 229 38 ∧ M 229 38 ≤ 402 := hI0 229 38
  have hI_45 : (0 : Int) ≤ M 229 45 ∧ M 229 45 ≤ 402 := hI0 229 45
  have hI_42 : (0 : Int) ≤ M 229 42 ∧ M 229 42 ≤ 300 := hI0 229 42
  have hI_39 : (0 : Int) ≤ M 229 39 ∧ M 229 39 ≤ 100000 := hI0 229 39
  have hI_40 : (0 : Int) ≤ M 229 40 ∧ M 229 40 ≤ 5 := hI0 229 40
  have hI_41 : (0 : Int) ≤ M 229 41 ∧ M 229 41 ≤ 6 := hI0 229 41
  clear hI0
  refine g_aload_n (n := 1) hx 0 (dq tX10_river 0 rfl) rfl rfl ?_
  refine g_callVv (n := 4) (As := []) (rest := []) hx (ctX10_starts Γ M ) mlX10_372 (obX10 (by decide)) (dq tX10_river 1 rfl) rfl (Nat.le_of_ble_eq_true rfl) (Nat.le_of_ble_eq_true rfl) (Nat.le_of_ble_eq_true rfl) rfl (fun M_2 p_4 => ?_)
  obtain ⟨f_5, h_6, h_7, h_8, h_9⟩ := p_4
  have g_10 : Gm M_2 := Gm.frame gm (fun c j hcj => f_5 c j (by omega))
  have g_11 : On M_2 := On.frame on (fun c j hcj => f_5 c j (by omega))
  have g_12 : Rl M_2 := Rl.frame rl (fun c j hcj => f_5 c j (by omega))
  refine g_aload_n (n := 5) hx 0 (dq tX10_river 2 rfl) rfl rfl ?_
  refine g_iconst (n := 6) hx (dq tX10_river 3 rfl) rfl ?_
  have e_13 : M_2 229 37 = M 229 37 := (f_5 229 37 (by omega))
  have e_14 : M_2 (229 + 1) 7 = M (229 + 1) 7 := (f_5 (229 + 1) 7 (by omega))
  refine g_putZ (n := 9) hx plX10_354 (sX10_47 (by decide)) (dq tX10_river 4 rfl) rfl (by omega) (by omega) (by omega) (fun M_15 m_16e m_16 => ?_)
  have g_17 : Gm M_15 := Gm.frame g_10 (fun c j hcj => m_16 c j (by omega))
  have g_18 : On M_15 := On.frame g_11 (fun c j hcj => m_16 c j (by omega))
  have g_19 : Rl M_15 := Rl.frame g_12 (fun c j hcj => m_16 c j (by omega))
  refine g_iconst (n := 10) hx (dq tX10_river 5 rfl) rfl ?_
  refine g_istore_n (n := 11) (lv' := [(1, vI 0), (0, aR Γ 229)]) hx (dq tX10_river 6 rfl) (by decide) rfl rfl ?_
  refine g_iload_n (n := 12) hx 0 (dq tX10_river 7 rfl) rfl rfl ?_
  refine g_iconst (n := 13) hx (dq tX10_river 8 rfl) rfl ?_
  refine g_icmp_ge (n := 16) (t := 29) hx (dq tX10_river 9 rfl) (by decide) rfl ⟨by decide, by decide⟩ ⟨by decide, by decide⟩ (fun c_20 => ?_) (fun c_20 => ?_)
  · omega
  · refine g_aload_n (n := 17) hx 1 (dq tX10_river 10 rfl) rfl rfl ?_
    refine g_getR (n := 20) hx glX10_94 (sX10_29 (by decide)) (dq tX10_river 11 rfl) rfl ?_
    refine g_iload_n (n := 21) hx 0 (dq tX10_river 12 rfl) rfl rfl ?_
    refine g_iconst (n := 22) hx (dq tX10_river 13 rfl) rfl ?_
    have e_21 : M_15 229 37 = M_2 229 37 := (m_16 229 37 (by omega))
    have e_22 : M_15 229 38 = M_2 229 38 := (m_16 229 38 (by omega))
    have e_23 : M_15 229 39 = M_2 229 39 := (m_16 229 39 (by omega))
    have e_24 : M_15 (229 + 1) 7 = M_2 (229 + 1) 7 := (m_16 (229 + 1) 7 (by omega))
    refine g_iastX (n := 23) (q := 0) hx (aX10_29 (b := 229) (by decide)) (dq tX10_river 14 rfl) rfl (by decide) (by decide) (by decide) rfl (show (-2147483648) ≤ 0 by omega) (show 0 ≤ 2147483647 by omega) (fun M_25 m_26e m_26 => ?_)
    have g_27 : Gm M_25 := Gm.frame g_17 (fun c j hcj => m_26 c j (by omega))
    have g_28 : On M_25 := On.frame g_18 (fun c j hcj => m_26 c j (by omega))
    have g_29 : Rl M_25 := Rl.frame g_19 (fun c j hcj => m_26 c j (by omega))
    refine g_iinc (n := 26) (lv' := [(1, vI 1), (0, aR Γ 229)]) hx 0 (dq tX10_river 15 rfl) rfl (by decide) rfl rfl ?_
    refine g_goto (n := 11) hx (dq tX10_river 16 rfl) (by decide) ?_
    refine g_iload_n (n := 12) hx 0 (dq tX10_river 7 rfl) rfl rfl ?_
    refine g_iconst (n := 13) hx (dq tX10_river 8 rfl) rfl ?_
    refine g_icmp_ge (n := 16) (t := 29) hx (dq tX10_river 9 rfl) (by decide) rfl ⟨by decide, by decide⟩ ⟨by decide, by decide⟩ (fun c_30 => ?_) (fun c_30 => ?_)
    · omega
    · refine g_aload_n (n := 17) hx 1 (dq tX10_river 10 rfl) rfl rfl ?_
      refine g_getR (n := 20) hx glX10_94 (sX10_29 (by decide)) (dq tX10_river 11 rfl) rfl ?_
      refine g_iload_n (n := 21) hx 0 (dq tX10_river 12 rfl) rfl rfl ?_
      refine g_iconst (n := 22) hx (dq tX10_river 13 rfl) rfl ?_
      have e_31 : M_25 229 37 = M_15 229 37 := (m_26 229 37 (by omega))
      have e_32 : M_25 229 38 = M_15 229 38 := (m_26 229 38 (by omega))
      have e_33 : M_25 229 39 = M_15 229 39 := (m_26 229 39 (by omega))
      have e_34 : M_25 (229 + 1) 7 = M_15 (229 + 1) 7 := (m_26 (229 + 1) 7 (by omega))
      refine g_iastX (n := 23) (q := 1) hx (aX10_29 (b := 229) (by decide)) (dq tX10_river 14 rfl) rfl (by decide) (by decide) (by decide) rfl (show 0 ≤ 0 by omega) (show 0 ≤ 6 by omega) (fun M_35 m_36e m_36 => ?_)
      have g_37 : Gm M_35 := Gm.frame g_27 (fun c j hcj => m_36 c j (by omega))
      have g_38 : On M_35 := On.frame g_28 (fun c j hcj => m_36 c j (by omega))
      have g_39 : Rl M_35 := Rl.frame g_29 (fun c j hcj => m_36 c j (by omega))
      refine g_iinc (n := 26) (lv' := [(1, vI 2), (0, aR Γ 229)]) hx 0 (dq tX10_river 15 rfl) rfl (by decide) rfl rfl ?_
      refine g_goto (n := 11) hx (dq tX10_river 16 rfl) (by decide) ?_
      refine g_iload_n (n := 12) hx 0 (dq tX10_river 7 rfl) rfl rfl ?_
      refine g_iconst (n := 13) hx (dq tX10_river 8 rfl) rfl ?_
      refine g_icmp_ge (n := 16) (t := 29) hx (dq tX10_river 9 rfl) (by decide) rfl ⟨by decide, by decide⟩ ⟨by decide, by decide⟩ (fun c_40 => ?_) (fun c_40 => ?_)
      · omega
      · refine g_aload_n (n := 17) hx 1 (dq tX10_river 10 rfl) rfl rfl ?_
        refine g_getR (n := 20) hx glX10_94 (sX10_29 (by decide)) (dq tX10_river 11 rfl) rfl ?_
        refine g_iload_n (n := 21) hx 0 (dq tX10_river 12 rfl) rfl rfl ?_
        refine g_iconst (n := 22) hx (dq tX10_river 13 rfl) rfl ?_
        have e_41 : M_35 229 37 = M_25 229 37 := (m_36 229 37 (by omega))
        have e_42 : M_35 229 38 = M_25 229 38 := (m_36 229 38 (by omega))
        have e_43 : M_35 229 39 = M_25 229 39 := (m_36 229 39 (by omega))
        have e_44 : M_35 (229 + 1) 7 = M_25 (229 + 1) 7 := (m_36 (229 + 1) 7 (by omega))
        refine g_iastX (n := 23) (q := 2) hx (aX10_29 (b := 229) (by decide)) (dq tX10_river 14 rfl) rfl (by decide) (by decide) (by decide) rfl (show 0 ≤ 0 by omega) (show 0 ≤ 4 by omega) (fun M_45 m_46e m_46 => ?_)
        have g_47 : Gm M_45 := Gm.frame g_37 (fun c j hcj => m_46 c j (by omega))
        have g_48 : On M_45 := On.frame g_38 (fun c j hcj => m_46 c j (by omega))
        have g_49 : Rl M_45 := Rl.frame g_39 (fun c j hcj => m_46 c j (by omega))
        refine g_iinc (n := 26) (lv' := [(1, vI 3), (0, aR Γ 229)]) hx 0 (dq tX10_river 15 rfl) rfl (by decide) rfl rfl ?_
        refine g_goto (n := 11) hx (dq tX10_river 16 rfl) (by decide) ?_
        refine g_iload_n (n := 12) hx 0 (dq tX10_river 7 rfl) rfl rfl ?_
        refine g_iconst (n := 13) hx (dq tX10_river 8 rfl) rfl ?_
        refine g_icmp_ge (n := 16) (t := 29) hx (dq tX10_river 9 rfl) (by decide) rfl ⟨by decide, by decide⟩ ⟨by decide, by decide⟩ (fun c_50 => ?_) (fun c_50 => ?_)
        · omega
        · refine g_aload_n (n := 17) hx 1 (dq tX10_river 10 rfl) rfl rfl ?_
          refine g_getR (n := 20) hx glX10_94 (sX10_29 (by decide)) (dq tX10_river 11 rfl) rfl ?_
          refine g_iload_n (n := 21) hx 0 (dq tX10_river 12 rfl) rfl rfl ?_
          refine g_iconst (n := 22) hx (dq tX10_river 13 rfl) rfl ?_
          have e_51 : M_45 229 37 = M_35 229 37 := (m_46 229 37 (by omega))
          have e_52 : M_45 229 38 = M_35 229 38 := (m_46 229 38 (by omega))
          have e_53 : M_45 229 39 = M_35 229 39 := (m_46 229 39 (by omega))
          have e_54 : M_45 (229 + 1) 7 = M_35 (229 + 1) 7 := (m_46 (229 + 1) 7 (by omega))
          refine g_iastX (n := 23) (q := 3) hx (aX10_29 (b := 229) (by decide)) (dq tX10_river 14 rfl) rfl (by decide) (by decide) (by decide) rfl (show 0 ≤ 0 by omega) (show 0 ≤ 12 by omega) (fun M_55 m_56e m_56 => ?_)
          have g_57 : Gm M_55 := Gm.frame g_47 (fun c j hcj => m_56 c j (by omega))
          have g_58 : On M_55 := On.frame g_48 (fun c j hcj => m_56 c j (by omega))
          have g_59 : Rl M_55 := Rl.frame g_49 (fun c j hcj => m_56 c j (by omega))
          refine g_iinc (n := 26) (lv' := [(1, vI 4), (0, aR Γ 229)]) hx 0 (dq tX10_river 15 rfl) rfl (by decide) rfl rfl ?_
          refine g_goto (n := 11) hx (dq tX10_river 16 rfl) (by decide) ?_
          refine g_iload_n (n := 12) hx 0 (dq tX10_river 7 rfl) rfl rfl ?_
          refine g_iconst (n := 13) hx (dq tX10_river 8 rfl) rfl ?_
          refine g_icmp_ge (n := 16) (t := 29) hx (dq tX10_river 9 rfl) (by decide) rfl ⟨by decide, by decide⟩ ⟨by decide, by decide⟩ (fun c_60 => ?_) (fun c_60 => ?_)
          · omega
          · refine g_aload_n (n := 17) hx 1 (dq tX10_river 10 rfl) rfl rfl ?_
            refine g_getR (n := 20) hx glX10_94 (sX10_29 (by decide)) (dq tX10_river 11 rfl) rfl ?_
            refine g_iload_n (n := 21) hx 0 (dq tX10_river 12 rfl) rfl rfl ?_
            refine g_iconst (n := 22) hx (dq tX10_river 13 rfl) rfl ?_
            have e_61 : M_55 229 37 = M_45 229 37 := (m_56 229 37 (by omega))
            have e_62 : M_55 229 38 = M_45 229 38 := (m_56 229 38 (by omega))
            have e_63 : M_55 229 39 = M_45 229 39 := (m_56 229 39 (by omega))
            have e_64 : M_55 (229 + 1) 7 = M_45 (229 + 1) 7 := (m_56 (229 + 1) 7 (by omega))
            refine g_iastX (n := 23) (q := 4) hx (aX10_29 (b := 229) (by decide)) (dq tX10_river 14 rfl) rfl (by decide) (by decide) (by decide) rfl (show (-2147483648) ≤ 0 by omega) (show 0 ≤ 2147483647 by omega) (fun M_65 m_66e m_66 => ?_)
            have g_67 : Gm M_65 := Gm.frame g_57 (fun c j hcj => m_66 c j (by omega))
            have g_68 : On M_65 := On.frame g_58 (fun c j hcj => m_66 c j (by omega))
            have g_69 : Rl M_65 := Rl.frame g_59 (fun c j hcj => m_66 c j (by omega))
            refine g_iinc (n := 26) (lv' := [(1, vI 5), (0, aR Γ 229)]) hx 0 (dq tX10_river 15 rfl) rfl (by decide) rfl rfl ?_
            refine g_goto (n := 11) hx (dq tX10_river 16 rfl) (by decide) ?_
            refine g_iload_n (n := 12) hx 0 (dq tX10_river 7 rfl) rfl rfl ?_
            refine g_iconst (n := 13) hx (dq tX10_river 8 rfl) rfl ?_
            refine g_icmp_ge (n := 16) (t := 29) hx (dq tX10_river 9 rfl) (by decide) rfl ⟨by decide, by decide⟩ ⟨by decide, by decide⟩ (fun c_70 => ?_) (fun c_70 => ?_)
            · refine g_iconst (n := 30) hx (dq tX10_river 17 rfl) rfl ?_
              refine g_istore_n (n := 31) (lv' := [(1, vI 0), (0, aR Γ 229)]) hx (dq tX10_river 18 rfl) (by decide) rfl rfl ?_
              have L_73 : ∀ (n_ : Nat) (i_71 : Int) (M_72 : zM), (0 ≤ i_71) → (i_71 ≤ 9) → (∀ u_ v_, u_ ≠ 229 + 30 → M_72 u_ v_ = M_65 u_ v_) → (Gm M_72) → (On M_72) → (Rl M_72) → ((9 - i_71).toNat = n_) → G Γ x 3 (QI Γ x (qctX10_river2 M)) M_72 31 [(1, vI i_71), (0, aR Γ 229)] [] := by
                intro n_
                induction n_ using Nat.strongRecOn with
                | _ n_ ih_74 =>
                  intro i_71 M_72 h_80 h_81 f_75 g_76 g_77 g_78 hm_79
                  refine g_iload_n (n := 32) hx 0 (dq tX10_river 19 rfl) rfl rfl ?_
                  refine g_bipush (n := 34) hx (dq tX10_river 20 rfl) rfl (by decide) ?_
                  refine g_icmp_ge (n := 37) (t := 51) hx (dq tX10_river 21 rfl) (by decide) rfl ⟨by omega, by omega⟩ ⟨by decide, by decide⟩ (fun c_82 => ?_) (fun c_82 => ?_)
                  · refine g_iconst (n := 52) hx (dq tX10_river 29 rfl) rfl ?_
                    refine g_istore_n (n := 53) (lv' := [(1, vI 0), (0, aR Γ 229)]) hx (dq tX10_river 30 rfl) (by decide) rfl rfl ?_
                    have e_r0 : M_72 (229 + 29) 0 = 0 := ((((((f_75 (229 + 29) 0 (by omega)).trans (m_66 (229 + 29) 0 (by omega))).trans (m_56 (229 + 29) 0 (by omega))).trans (m_46 (229 + 29) 0 (by omega))).trans (m_36 (229 + 29) 0 (by omega)))).trans m_26e
                    have e_r1 : M_72 (229 + 29) 1 = 0 := (((((f_75 (229 + 29) 1 (by omega)).trans (m_66 (229 + 29) 1 (by omega))).trans (m_56 (229 + 29) 1 (by omega))).trans (m_46 (229 + 29) 1 (by omega)))).trans m_36e
                    have e_r3 : M_72 (229 + 29) 3 = 0 := (((f_75 (229 + 29) 3 (by omega)).trans (m_66 (229 + 29) 3 (by omega)))).trans m_56e
                    have g_83 : Nw M_72 := Nw.nil e_r0 e_r1 e_r3
                    refine g_iconst (n := 54) hx (dq tX10_river 31 rfl) rfl ?_
                    refine g_istore_n (n := 55) (lv' := [(2, vI 1), (1, vI 0), (0, aR Γ 229)]) hx (dq tX10_river 32 rfl) (by decide) rfl rfl ?_
                    have L_87 : ∀ (n_ : Nat) (i_84 : Int) (i_85 : Int) (M_86 : zM), (0 ≤ i_84) → (i_84 ≤ 1) → (0 ≤ i_85) → (i_85 ≤ 402) → (∀ u_ v_, (u_ ≠ 229 ∨ v_ ≠ 38) ∧ (u_ ≠ 229 ∨ v_ ≠ 39) ∧ (u_ ≠ 229 ∨ v_ ≠ 47) ∧ (u_ < 229 + 29 ∨ 229 + 37 ≤ u_) → M_86 u_ v_ = M_72 u_ v_) → (Gm M_86) → (On M_86) → (Rl M_86) → (Nw M_86) → (i_84 = 1 → (M_86 229 39 = 0 ∧ M_86 229 38 ≤ M_86 229 37)) → (i_85 ≤ M_86 229 38) → (M_86 229 38 ≤ 402) → (i_84 = 1 → M_86 229 38 ≤ 400) → ((403 - M_86 229 38).toNat = n_) → G Γ x 3 (QI Γ x (qctX10_river2 M)) M_86 55 [(2, vI i_84), (1, vI i_85), (0, aR Γ 229)] [] := by
                      intro n_
                      induction n_ using Nat.strongRecOn with
                      | _ n_ ih_88 =>
                        intro i_84 i_85 M_86 h_99 h_100 h_101 h_102 f_89 g_90 g_91 g_92 g_93 h_95 h_96 h_97 h_98 hm_94
                        refine g_iload_n (n := 56) hx 0 (dq tX10_river 33 rfl) rfl rfl ?_
                        refine g_if_eq (n := 59) (t := 75) hx (dq tX10_river 34 rfl) (by decide) rfl ⟨by omega, by omega⟩ (fun c_103 => ?_) (fun c_103 => ?_)
                        · refine g_aload_n (n := 76) hx 2 (dq tX10_river 43 rfl) rfl rfl ?_
                          refine g_iconst (n := 77) hx (dq tX10_river 44 rfl) rfl ?_
                          have e_104 : M_86 229 37 = M_55 229 37 := (((f_89 229 37 (by omega))).trans (f_75 229 37 (by omega))).trans (m_66 229 37 (by omega))
                          have e_105 : M_86 (229 + 1) 7 = M_55 (229 + 1) 7 := (((f_89 (229 + 1) 7 (by omega))).trans (f_75 (229 + 1) 7 (by omega))).trans (m_66 (229 + 1) 7 (by omega))
                          refine g_putI (n := 80) hx plX10_216 (sX10_37 (by decide)) (dq tX10_river 45 rfl) rfl (by omega) (by omega) (fun M_106 m_107e m_107 => ?_)
                          have g_108 : Gm M_106 := Gm.frame g_90 (fun c j hcj => m_107 c j (by omega))
                          have g_109 : On M_106 := On.frame g_91 (fun c j hcj => m_107 c j (by omega))
                          have g_110 : Rl M_106 := Rl.frame g_92 (fun c j hcj => m_107 c j (by omega))
                          have g_111 : Nw M_106 := Nw.gen g_93 (by have q39 := m_107 229 39 (by omega); omega) (fun j hj => m_107 _ j (by omega)) (fun v hv => m_107 _ v (by omega)) (fun l hl => m_107 _ l (by omega)) (fun l hl => m_107 _ l (by omega))
                          refine g_aload_n (n := 81) hx 2 (dq tX10_river 46 rfl) rfl rfl ?_
                          refine g_getI (n := 84) hx glX10_246 (sX10_39 (by decide)) (dq tX10_river 47 rfl) rfl (fun h_112l h_112u => ?_)
                          have e_113 : M_106 229 39 = M_86 229 39 := (m_107 229 39 (by omega))
                          refine g_if_le (n := 87) (t := 95) hx (dq tX10_river 48 rfl) (by decide) rfl (zrI h_112l h_112u (by decide) (by decide)) (fun c_114 => ?_) (fun c_114 => ?_)
                          · refine g_aload_n (n := 96) hx 2 (dq tX10_river 54 rfl) rfl rfl ?_
                            have e_115 : M_106 229 38 = M_86 229 38 := (m_107 229 38 (by omega))
                            have e_116 : M_106 (229 + 1) 7 = M_86 (229 + 1) 7 := (m_107 (229 + 1) 7 (by omega))
                            refine g_callVv (n := 99) (As := []) (rest := []) hx (ctX10_begins Γ M_106 (by omega) g_108 g_111 g_110) mlX10_381 (obX10 (by decide)) (dq tX10_river 55 rfl) rfl (Nat.le_of_ble_eq_true rfl) (Nat.le_of_ble_eq_true rfl) (Nat.le_of_ble_eq_true rfl) rfl (fun M_118 p_120 => ?_)
                            obtain ⟨f_121, h_122, h_123, h_124, h_125⟩ := p_120
                            refine g_aload_n (n := 100) hx 2 (dq tX10_river 56 rfl) rfl rfl ?_
                            refine g_getR (n := 103) hx glX10_9 (sX10_1 (by decide)) (dq tX10_river 57 rfl) rfl ?_
                            refine g_iconst (n := 104) hx (dq tX10_river 58 rfl) rfl ?_
                            refine g_ialdX (n := 105) (q := 3) hx (aX10_1 (b := 229) (by decide)) (dq tX10_river 59 rfl) rfl (by decide) (by decide) (by decide) rfl (fun h_127l h_127u => ?_)
                            have h_127l : 0 ≤ M_118 (229 + 1) 3 := h_127l
                            have h_127u : M_118 (229 + 1) 3 ≤ 12 := h_127u
                            have e_128 : M_118 229 37 = M_106 229 37 := (f_121 229 37 (by omega))
                            have e_129 : M_118 229 38 = M_106 229 38 := (f_121 229 38 (by omega))
                            have e_130 : M_118 229 39 = M_106 229 39 := (f_121 229 39 (by omega))
                            exact g_iret hx hr (dq tX10_river 60 rfl) (zrI h_127l h_127u (by decide) (by decide)) ⟨(fun u_ v_ huv_ => (((((((((((f_121 u_ v_ ⟨huv_.2.2.2.2.2.2.2.1, huv_.2.2.2.2.2.2.2.2.1⟩).trans (m_107 u_ v_ huv_.1)).trans (f_89 u_ v_ ⟨huv_.2.1, huv_.2.2.1, huv_.2.2.2.2.2.2.1, huv_.2.2.2.2.2.2.2.2.2⟩)).trans (f_75 u_ v_ (by have q9 := huv_.2.2.2.2.2.2.2.2.2; clear huv_; omega))).trans (m_66 u_ v_ (by have q9 := huv_.2.2.2.2.2.2.2.2.2; clear huv_; omega))).trans (m_56 u_ v_ (by have q9 := huv_.2.2.2.2.2.2.2.2.2; clear huv_; omega))).trans (m_46 u_ v_ (by have q9 := huv_.2.2.2.2.2.2.2.2.2; clear huv_; omega))).trans (m_36 u_ v_ (by have q9 := huv_.2.2.2.2.2.2.2.2.2; clear huv_; omega))).trans (m_26 u_ v_ (by have q9 := huv_.2.2.2.2.2.2.2.2.2; clear huv_; omega))).trans (m_16 u_ v_ huv_.2.2.2.2.2.2.1)).trans (f_5 u_ v_ ⟨huv_.2.1, huv_.2.2.1, huv_.2.2.2.1, huv_.2.2.2.2.1, huv_.2.2.2.2.2.1⟩))), h_122, h_123, h_124, (by omega), (((f_121 229 37 (by omega))).trans m_107e)⟩
                          · refine g_bipush (n := 89) hx (dq tX10_river 49 rfl) rfl (by decide) ?_
                            refine g_aload_n (n := 90) hx 2 (dq tX10_river 50 rfl) rfl rfl ?_
                            refine g_getI (n := 93) hx glX10_246 (sX10_39 (by decide)) (dq tX10_river 51 rfl) rfl (fun h_131l h_131u => ?_)
                            refine g_isub (n := 94) hx (dq tX10_river 52 rfl) rfl ?_
                            have e_132 : M_106 229 38 = M_86 229 38 := (m_107 229 38 (by omega))
                            have e_133 : M_106 (229 + 1) 7 = M_86 (229 + 1) 7 := (m_107 (229 + 1) 7 (by omega))
                            exact g_iret hx hr (dq tX10_river 53 rfl) ⟨by omega, by omega⟩ ⟨(fun u_ v_ huv_ => ((((((((((m_107 u_ v_ huv_.1).trans (f_89 u_ v_ ⟨huv_.2.1, huv_.2.2.1, huv_.2.2.2.2.2.2.1, huv_.2.2.2.2.2.2.2.2.2⟩)).trans (f_75 u_ v_ (by have q9 := huv_.2.2.2.2.2.2.2.2.2; clear huv_; omega))).trans (m_66 u_ v_ (by have q9 := huv_.2.2.2.2.2.2.2.2.2; clear huv_; omega))).trans (m_56 u_ v_ (by have q9 := huv_.2.2.2.2.2.2.2.2.2; clear huv_; omega))).trans (m_46 u_ v_ (by have q9 := huv_.2.2.2.2.2.2.2.2.2; clear huv_; omega))).trans (m_36 u_ v_ (by have q9 := huv_.2.2.2.2.2.2.2.2.2; clear huv_; omega))).trans (m_26 u_ v_ (by have q9 := huv_.2.2.2.2.2.2.2.2.2; clear huv_; omega))).trans (m_16 u_ v_ huv_.2.2.2.2.2.2.1)).trans (f_5 u_ v_ ⟨huv_.2.1, huv_.2.2.1, huv_.2.2.2.1, huv_.2.2.2.2.1, huv_.2.2.2.2.2.1⟩))), g_108, g_109, g_110, (by omega), m_107e⟩
                        · refine g_aload_n (n := 60) hx 2 (dq tX10_river 35 rfl) rfl rfl ?_
                          refine g_iload_n (n := 61) hx 1 (dq tX10_river 36 rfl) rfl rfl ?_
                          have e_134 : M_86 229 37 = M_55 229 37 := (((f_89 229 37 (by omega))).trans (f_75 229 37 (by omega))).trans (m_66 229 37 (by omega))
                          have e_135 : M_86 (229 + 1) 7 = M_55 (229 + 1) 7 := (((f_89 (229 + 1) 7 (by omega))).trans (f_75 (229 + 1) 7 (by omega))).trans (m_66 (229 + 1) 7 (by omega))
                          refine g_callVv (n := 64) (As := [vI i_85]) (rest := []) hx (ctX10_riverClause Γ M_86 i_85 (by omega) (by omega) (by omega) (by omega) g_93) mlX10_375 (obX10 (by decide)) (dq tX10_river 37 rfl) rfl (Nat.le_of_ble_eq_true rfl) (Nat.le_of_ble_eq_true rfl) (Nat.le_of_ble_eq_true rfl) rfl (fun M_137 p_139 => ?_)
                          obtain ⟨f_140, g_141, h_142, h_143⟩ := p_139
                          have g_144 : Gm M_137 := Gm.frame g_90 (fun c j hcj => f_140 c j (by omega))
                          have g_145 : On M_137 := On.frame g_91 (fun c j hcj => f_140 c j (by omega))
                          have g_146 : Rl M_137 := Rl.frame g_92 (fun c j hcj => f_140 c j (by omega))
                          refine g_iinc (n := 67) (lv' := [(1, vI (i_85 + 1)), (2, vI i_84), (0, aR Γ 229)]) hx 1 (dq tX10_river 38 rfl) rfl (by decide) rfl rfl ?_
                          refine g_aload_n (n := 68) hx 2 (dq tX10_river 39 rfl) rfl rfl ?_
                          have e_147 : M_137 229 37 = M_86 229 37 := (f_140 229 37 (by omega))
                          have e_148 : M_137 (229 + 1) 7 = M_86 (229 + 1) 7 := (f_140 (229 + 1) 7 (by omega))
                          refine g_callVi (n := 71) (As := []) (rest := []) hx (ctX10_goesOn Γ M_137 (by omega)) mlX10_378 (obX10 (by decide)) (dq tX10_river 40 rfl) rfl (Nat.le_of_ble_eq_true rfl) (Nat.le_of_ble_eq_true rfl) (Nat.le_of_ble_eq_true rfl) rfl (fun z_149 M_150 h_151 p_152 => ?_)
                          obtain ⟨f_153, b_154, h_155, h_156, h_157⟩ := p_152
                          have g_158 : Gm M_150 := Gm.frame g_144 (fun c j hcj => f_153 c j (by omega))
                          have g_159 : On M_150 := On.frame g_145 (fun c j hcj => f_153 c j (by omega))
                          have g_160 : Rl M_150 := Rl.frame g_146 (fun c j hcj => f_153 c j (by omega))
                          have g_161 : Nw M_150 := Nw.gen g_141 (by omega) (fun j hj => f_153 _ j (by omega)) (fun v hv => f_153 _ v (by omega)) (fun l hl => f_153 _ l (by omega)) (fun l hl => f_153 _ l (by omega))
                          refine g_istore_n (n := 72) (lv' := [(2, vI z_149), (1, vI (i_85 + 1)), (0, aR Γ 229)]) hx (dq tX10_river 41 rfl) (by decide) rfl rfl ?_
                          refine g_goto (n := 55) hx (dq tX10_river 42 rfl) (by decide) ?_
                          have e_164 : M_150 229 37 = M_137 229 37 := (f_153 229 37 (by omega))
                          have e_165 : M_150 (229 + 1) 7 = M_137 (229 + 1) 7 := (f_153 (229 + 1) 7 (by omega))
                          exact ih_88 _ (by omega) z_149 (i_85 + 1) M_150 (by omega) (by omega) (by omega) (by omega) (fun u_ v_ huv_ => (((f_153 u_ v_ ⟨huv_.1, huv_.2.1⟩).trans (f_140 u_ v_ ⟨huv_.1, huv_.2.1, huv_.2.2.1, huv_.2.2.2⟩)).trans (f_89 u_ v_ ⟨huv_.1, huv_.2.1, huv_.2.2.1, huv_.2.2.2⟩))) g_158 g_159 g_160 g_161 (by first | assumption | omega) (by first | assumption | omega) (by first | assumption | omega) (by first | assumption | omega) rfl
                    have e_166 : M_72 229 37 = M_55 229 37 := ((f_75 229 37 (by omega))).trans (m_66 229 37 (by omega))
                    have e_167 : M_72 229 38 = M_55 229 38 := ((f_75 229 38 (by omega))).trans (m_66 229 38 (by omega))
                    have e_168 : M_72 229 39 = M_55 229 39 := ((f_75 229 39 (by omega))).trans (m_66 229 39 (by omega))
                    have e_169 : M_72 (229 + 1) 7 = M_55 (229 + 1) 7 := ((f_75 (229 + 1) 7 (by omega))).trans (m_66 (229 + 1) 7 (by omega))
                    exact L_87 _ 1 0 M_72 (by omega) (by omega) (by omega) (by omega) (fun _ _ _ => rfl) g_76 g_77 g_78 g_83 (by first | assumption | omega) (by first | assumption | omega) (by first | assumption | omega) (by first | assumption | omega) rfl
                  · refine g_aload_n (n := 38) hx 1 (dq tX10_river 22 rfl) rfl rfl ?_
                    refine g_getR (n := 41) hx glX10_97 (sX10_30 (by decide)) (dq tX10_river 23 rfl) rfl ?_
                    refine g_iload_n (n := 42) hx 0 (dq tX10_river 24 rfl) rfl rfl ?_
                    refine g_bipush (n := 44) hx (dq tX10_river 25 rfl) rfl (by decide) ?_
                    have e_170 : M_72 229 37 = M_55 229 37 := ((f_75 229 37 (by omega))).trans (m_66 229 37 (by omega))
                    have e_171 : M_72 229 38 = M_55 229 38 := ((f_75 229 38 (by omega))).trans (m_66 229 38 (by omega))
                    have e_172 : M_72 229 39 = M_55 229 39 := ((f_75 229 39 (by omega))).trans (m_66 229 39 (by omega))
                    have e_173 : M_72 (229 + 1) 7 = M_55 (229 + 1) 7 := ((f_75 (229 + 1) 7 (by omega))).trans (m_66 (229 + 1) 7 (by omega))
                    refine g_iast (n := 45) (q := i_71.toNat) hx (aX10_30 (b := 229) (by decide)) (dq tX10_river 26 rfl) rfl (by omega) (by omega) (by omega) rfl (by omega) (by omega) (fun M_174 m_175e m_175 => ?_)
                    have g_176 : Gm M_174 := Gm.frame g_76 (fun c j hcj => m_175 c j (by omega))
                    have g_177 : On M_174 := On.frame g_77 (fun c j hcj => m_175 c j (by omega))
                    have g_178 : Rl M_174 := Rl.frame g_78 (fun c j hcj => m_175 c j (by omega))
                    refine g_iinc (n := 48) (lv' := [(1, vI (i_71 + 1)), (0, aR Γ 229)]) hx 0 (dq tX10_river 27 rfl) rfl (by decide) rfl rfl ?_
                    refine g_goto (n := 31) hx (dq tX10_river 28 rfl) (by decide) ?_
                    have e_179 : M_174 229 37 = M_72 229 37 := (m_175 229 37 (by omega))
                    have e_180 : M_174 229 38 = M_72 229 38 := (m_175 229 38 (by omega))
                    have e_181 : M_174 229 39 = M_72 229 39 := (m_175 229 39 (by omega))
                    have e_182 : M_174 (229 + 1) 7 = M_72 (229 + 1) 7 := (m_175 (229 + 1) 7 (by omega))
                    exact ih_74 _ (by omega) (i_71 + 1) M_174 (by omega) (by omega) (fun u_ v_ huv_ => ((m_175 u_ v_ (by omega)).trans (f_75 u_ v_ huv_))) g_176 g_177 g_178 rfl
              have e_183 : M_65 229 37 = M_55 229 37 := (m_66 229 37 (by omega))
              have e_184 : M_65 229 38 = M_55 229 38 := (m_66 229 38 (by omega))
              have e_185 : M_65 229 39 = M_55 229 39 := (m_66 229 39 (by omega))
              have e_186 : M_65 (229 + 1) 7 = M_55 (229 + 1) 7 := (m_66 (229 + 1) 7 (by omega))
              exact L_73 _ 0 M_65 (by omega) (by omega) (fun _ _ _ => rfl) g_67 g_68 g_69 rfl
            · omega
