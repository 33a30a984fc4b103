abbrev qctX10_river3 (M : zM) (t9 : Nat → Int) (n9 : Nat) (z : Int) (M' : zM) : Prop := (∀ u_ v_, (u_ ≠ 229 ∨ v_ ≠ 37) ∧ (u_ ≠ 229 ∨ v_ ≠ 38) ∧ (u_ ≠ 229 ∨ v_ ≠ 39) ∧ (u_ ≠ 229 ∨ v_ ≠ 42) ∧ (u_ ≠ 229 ∨ v_ ≠ 43) ∧ (u_ ≠ 229 ∨ v_ ≠ 44) ∧ (u_ ≠ 229 ∨ v_ ≠ 47) ∧ (u_ ≠ 229 + 1 ∨ v_ < 0 ∨ 16 ≤ v_) ∧ (u_ < 229 + 2 ∨ 229 + 19 ≤ u_) ∧ (u_ < 229 + 29 ∨ 229 + 37 ≤ u_) → M' u_ v_ = M u_ v_) ∧ Gm M' ∧ On M' ∧ Rl M' ∧ (M' (229 + 1) 7 ≤ 9999) ∧ (M' 229 37 = 0) ∧ ((∃ f : Int, River9 t9 n9 = .error f ∧ z = -2 - f ∧ ∀ u v : Nat, (230 ≤ u ∧ u ≤ 257) → M' u v = M u v) ∨ ((∃ (a : Nat) (w x : Int), River9 t9 n9 = .ok (a, M' (229 + 1) 0, M' (229 + 1) 1, w, M' (229 + 1) 3, x)) ∧ z = M' (229 + 1) 3 ∧ M' (229 + 1) 7 = 0 ∧ M' (229 + 1) 8 = 50 ∧ M' (229 + 1) 15 = -1 ∧ M' (229 + 1) 5 = 0 ∧ M' (229 + 1) 11 = 0 ∧ ∀ j : Nat, j < 6 → M' (229 + 6) j = -1))
set_option maxHeartbeats 4000000 in
set_option maxRecDepth 100000 in
theorem ctX10_river3 (Γ : Gam) (M : zM) (t9 : Nat → Int) (n9 : Nat) (pre0 : M (229 + 1) 7 ≤ 9999) (ex0 : Ty M t9 n9) (gm : Gm M) (on : On M) (rl : Rl M) : CtI Γ yX10_river cX10_river 3 (some .int) 7 159 [aR Γ 229] M (qctX10_river3 M t9 n9) := by
  refine met_i (by decide) (Nat.le_of_ble_eq_true rfl) (fun x hx hr => ?_)
  show G Γ x 3 (QI Γ x (qctX10_river3 M t9 n9)) M 0 [(0, aR Γ 229)] []
  refine g_iv (fun hI0 => ?_)
  have hI_37 : (0 : Int) ≤ M 229 37 ∧ M 229 37 ≤ 400 := hI0 229 37
  have hI_38 : (0 : Int) ≤ M 229 38 ∧ M 229 38 ≤ 402 := hI0 229 38
  have hI_45 : (0 : Int) ≤ M 229 45 ∧ M 229 45 ≤ 402 := hI0 229 45
  have hI_42 : (0 : Int) ≤ M 229 42 ∧ M 229 42 ≤ 300 := hI0 229 42
  have hI_39 : (0 : Int) ≤ M 229 39 ∧ M 229 39 ≤ 100000 := hI0 229 39
  have hI_40 : (0 : Int) ≤ M 229 40 ∧ M 229 40 ≤ 5 := hI0 229 40
  have hI_41 : (0 : Int) ≤ M 229 41 ∧ M 229 41 ≤ 6 := hI0 229 41
  clear hI0
  have hty_n := ex0.1
  refine g_aload_n (n := 1) hx 0 (dq tX10_river 0 rfl) rfl rfl ?_
  refine g_callVv (n := 4) (As := []) (rest := []) hx (ctX10_starts3 Γ M ) mlX10_372 (obX10 (by decide)) (dq tX10_river 1 rfl) rfl (Nat.le_of_ble_eq_true rfl) (Nat.le_of_ble_eq_true rfl) (Nat.le_of_ble_eq_true rfl) rfl (fun M_2 p_4 => ?_)
  obtain ⟨f_5, h_6, h_7, h_8, h_9, h_10⟩ := p_4
  have g_11 : Gm M_2 := Gm.frame gm (fun c j hcj => f_5 c j (by omega))
  have g_12 : On M_2 := On.frame on (fun c j hcj => f_5 c j (by omega))
  have g_13 : Rl M_2 := Rl.frame rl (fun c j hcj => f_5 c j (by omega))
  have g_14 : Ty M_2 t9 n9 := Ty.frame ex0 (fun c j hcj => f_5 c j (by omega))
  refine g_aload_n (n := 5) hx 0 (dq tX10_river 2 rfl) rfl rfl ?_
  refine g_iconst (n := 6) hx (dq tX10_river 3 rfl) rfl ?_
  have e_15 : M_2 229 37 = M 229 37 := (f_5 229 37 (by omega))
  have e_16 : M_2 (229 + 29) 0 = M (229 + 29) 0 := (f_5 (229 + 29) 0 (by omega))
  have e_17 : M_2 (229 + 29) 1 = M (229 + 29) 1 := (f_5 (229 + 29) 1 (by omega))
  have e_18 : M_2 (229 + 29) 2 = M (229 + 29) 2 := (f_5 (229 + 29) 2 (by omega))
  have e_19 : M_2 (229 + 29) 3 = M (229 + 29) 3 := (f_5 (229 + 29) 3 (by omega))
  have e_20 : M_2 229 47 = M 229 47 := (f_5 229 47 (by omega))
  have e_21 : M_2 (229 + 1) 7 = M (229 + 1) 7 := (f_5 (229 + 1) 7 (by omega))
  refine g_putZ (n := 9) hx plX10_354 (sX10_47 (by decide)) (dq tX10_river 4 rfl) rfl (by omega) (by omega) (by omega) (fun M_22 m_23e m_23 => ?_)
  have g_24 : Gm M_22 := Gm.frame g_11 (fun c j hcj => m_23 c j (by omega))
  have g_25 : On M_22 := On.frame g_12 (fun c j hcj => m_23 c j (by omega))
  have g_26 : Rl M_22 := Rl.frame g_13 (fun c j hcj => m_23 c j (by omega))
  have g_27 : Ty M_22 t9 n9 := Ty.frame g_14 (fun c j hcj => m_23 c j (by omega))
  refine g_iconst (n := 10) hx (dq tX10_river 5 rfl) rfl ?_
  refine g_istore_n (n := 11) (lv' := [(1, vI 0), (0, aR Γ 229)]) hx (dq tX10_river 6 rfl) (by decide) rfl rfl ?_
  refine g_iload_n (n := 12) hx 0 (dq tX10_river 7 rfl) rfl rfl ?_
  refine g_iconst (n := 13) hx (dq tX10_river 8 rfl) rfl ?_
  refine g_icmp_ge (n := 16) (t := 29) hx (dq tX10_river 9 rfl) (by decide) rfl ⟨by decide, by decide⟩ ⟨by decide, by decide⟩ (fun c_28 => ?_) (fun c_28 => ?_)
  · omega
  · refine g_aload_n (n := 17) hx 1 (dq tX10_river 10 rfl) rfl rfl ?_
    refine g_getR (n := 20) hx glX10_94 (sX10_29 (by decide)) (dq tX10_river 11 rfl) rfl ?_
    refine g_iload_n (n := 21) hx 0 (dq tX10_river 12 rfl) rfl rfl ?_
    refine g_iconst (n := 22) hx (dq tX10_river 13 rfl) rfl ?_
    have e_29 : M_22 229 37 = M_2 229 37 := (m_23 229 37 (by omega))
    have e_30 : M_22 229 38 = M_2 229 38 := (m_23 229 38 (by omega))
    have e_31 : M_22 229 39 = M_2 229 39 := (m_23 229 39 (by omega))
    have e_32 : M_22 (229 + 29) 0 = M_2 (229 + 29) 0 := (m_23 (229 + 29) 0 (by omega))
    have e_33 : M_22 (229 + 29) 1 = M_2 (229 + 29) 1 := (m_23 (229 + 29) 1 (by omega))
    have e_34 : M_22 (229 + 29) 2 = M_2 (229 + 29) 2 := (m_23 (229 + 29) 2 (by omega))
    have e_35 : M_22 (229 + 29) 3 = M_2 (229 + 29) 3 := (m_23 (229 + 29) 3 (by omega))
    have e_36 : M_22 (229 + 1) 7 = M_2 (229 + 1) 7 := (m_23 (229 + 1) 7 (by omega))
    refine g_iastX (n := 23) (q := 0) hx (aX10_29 (b := 229) (by decide)) (dq tX10_river 14 rfl) rfl (by decide) (by decide) (by decide) rfl (show (-2147483648) ≤ 0 by omega) (show 0 ≤ 2147483647 by omega) (fun M_37 m_38e m_38 => ?_)
    have g_39 : Gm M_37 := Gm.frame g_24 (fun c j hcj => m_38 c j (by omega))
    have g_40 : On M_37 := On.frame g_25 (fun c j hcj => m_38 c j (by omega))
    have g_41 : Rl M_37 := Rl.frame g_26 (fun c j hcj => m_38 c j (by omega))
    have g_42 : Ty M_37 t9 n9 := Ty.frame g_27 (fun c j hcj => m_38 c j (by omega))
    refine g_iinc (n := 26) (lv' := [(1, vI 1), (0, aR Γ 229)]) hx 0 (dq tX10_river 15 rfl) rfl (by decide) rfl rfl ?_
    refine g_goto (n := 11) hx (dq tX10_river 16 rfl) (by decide) ?_
    refine g_iload_n (n := 12) hx 0 (dq tX10_river 7 rfl) rfl rfl ?_
    refine g_iconst (n := 13) hx (dq tX10_river 8 rfl) rfl ?_
    refine g_icmp_ge (n := 16) (t := 29) hx (dq tX10_river 9 rfl) (by decide) rfl ⟨by decide, by decide⟩ ⟨by decide, by decide⟩ (fun c_43 => ?_) (fun c_43 => ?_)
    · omega
    · refine g_aload_n (n := 17) hx 1 (dq tX10_river 10 rfl) rfl rfl ?_
      refine g_getR (n := 20) hx glX10_94 (sX10_29 (by decide)) (dq tX10_river 11 rfl) rfl ?_
      refine g_iload_n (n := 21) hx 0 (dq tX10_river 12 rfl) rfl rfl ?_
      refine g_iconst (n := 22) hx (dq tX10_river 13 rfl) rfl ?_
      have e_44 : M_37 229 37 = M_22 229 37 := (m_38 229 37 (by omega))
      have e_45 : M_37 229 38 = M_22 229 38 := (m_38 229 38 (by omega))
      have e_46 : M_37 229 39 = M_22 229 39 := (m_38 229 39 (by omega))
      have e_47 : M_37 (229 + 29) 1 = M_22 (229 + 29) 1 := (m_38 (229 + 29) 1 (by omega))
      have e_48 : M_37 (229 + 29) 2 = M_22 (229 + 29) 2 := (m_38 (229 + 29) 2 (by omega))
      have e_49 : M_37 (229 + 29) 3 = M_22 (229 + 29) 3 := (m_38 (229 + 29) 3 (by omega))
      have e_50 : M_37 229 47 = M_22 229 47 := (m_38 229 47 (by omega))
      have e_51 : M_37 (229 + 1) 7 = M_22 (229 + 1) 7 := (m_38 (229 + 1) 7 (by omega))
      refine g_iastX (n := 23) (q := 1) hx (aX10_29 (b := 229) (by decide)) (dq tX10_river 14 rfl) rfl (by decide) (by decide) (by decide) rfl (show 0 ≤ 0 by omega) (show 0 ≤ 6 by omega) (fun M_52 m_53e m_53 => ?_)
      have g_54 : Gm M_52 := Gm.frame g_39 (fun c j hcj => m_53 c j (by omega))
      have g_55 : On M_52 := On.frame g_40 (fun c j hcj => m_53 c j (by omega))
      have g_56 : Rl M_52 := Rl.frame g_41 (fun c j hcj => m_53 c j (by omega))
      have g_57 : Ty M_52 t9 n9 := Ty.frame g_42 (fun c j hcj => m_53 c j (by omega))
      refine g_iinc (n := 26) (lv' := [(1, vI 2), (0, aR Γ 229)]) hx 0 (dq tX10_river 15 rfl) rfl (by decide) rfl rfl ?_
      refine g_goto (n := 11) hx (dq tX10_river 16 rfl) (by decide) ?_
      refine g_iload_n (n := 12) hx 0 (dq tX10_river 7 rfl) rfl rfl ?_
      refine g_iconst (n := 13) hx (dq tX10_river 8 rfl) rfl ?_
      refine g_icmp_ge (n := 16) (t := 29) hx (dq tX10_river 9 rfl) (by decide) rfl ⟨by decide, by decide⟩ ⟨by decide, by decide⟩ (fun c_58 => ?_) (fun c_58 => ?_)
      · omega
      · refine g_aload_n (n := 17) hx 1 (dq tX10_river 10 rfl) rfl rfl ?_
        refine g_getR (n := 20) hx glX10_94 (sX10_29 (by decide)) (dq tX10_river 11 rfl) rfl ?_
        refine g_iload_n (n := 21) hx 0 (dq tX10_river 12 rfl) rfl rfl ?_
        refine g_iconst (n := 22) hx (dq tX10_river 13 rfl) rfl ?_
        have e_59 : M_52 229 37 = M_37 229 37 := (m_53 229 37 (by omega))
        have e_60 : M_52 229 38 = M_37 229 38 := (m_53 229 38 (by omega))
        have e_61 : M_52 229 39 = M_37 229 39 := (m_53 229 39 (by omega))
        have e_62 : M_52 (229 + 29) 0 = M_37 (229 + 29) 0 := (m_53 (229 + 29) 0 (by omega))
        have e_63 : M_52 (229 + 29) 2 = M_37 (229 + 29) 2 := (m_53 (229 + 29) 2 (by omega))
        have e_64 : M_52 (229 + 29) 3 = M_37 (229 + 29) 3 := (m_53 (229 + 29) 3 (by omega))
        have e_65 : M_52 229 47 = M_37 229 47 := (m_53 229 47 (by omega))
        have e_66 : M_52 (229 + 1) 7 = M_37 (229 + 1) 7 := (m_53 (229 + 1) 7 (by omega))
        refine g_iastX (n := 23) (q := 2) hx (aX10_29 (b := 229) (by decide)) (dq tX10_river 14 rfl) rfl (by decide) (by decide) (by decide) rfl (show 0 ≤ 0 by omega) (show 0 ≤ 4 by omega) (fun M_67 m_68e m_68 => ?_)
        have g_69 : Gm M_67 := Gm.frame g_54 (fun c j hcj => m_68 c j (by omega))
        have g_70 : On M_67 := On.frame g_55 (fun c j hcj => m_68 c j (by omega))
        have g_71 : Rl M_67 := Rl.frame g_56 (fun c j hcj => m_68 c j (by omega))
        have g_72 : Ty M_67 t9 n9 := Ty.frame g_57 (fun c j hcj => m_68 c j (by omega))
        refine g_iinc (n := 26) (lv' := [(1, vI 3), (0, aR Γ 229)]) hx 0 (dq tX10_river 15 rfl) rfl (by decide) rfl rfl ?_
        refine g_goto (n := 11) hx (dq tX10_river 16 rfl) (by decide) ?_
        refine g_iload_n (n := 12) hx 0 (dq tX10_river 7 rfl) rfl rfl ?_
        refine g_iconst (n := 13) hx (dq tX10_river 8 rfl) rfl ?_
        refine g_icmp_ge (n := 16) (t := 29) hx (dq tX10_river 9 rfl) (by decide) rfl ⟨by decide, by decide⟩ ⟨by decide, by decide⟩ (fun c_73 => ?_) (fun c_73 => ?_)
        · omega
        · refine g_aload_n (n := 17) hx 1 (dq tX10_river 10 rfl) rfl rfl ?_
          refine g_getR (n := 20) hx glX10_94 (sX10_29 (by decide)) (dq tX10_river 11 rfl) rfl ?_
          refine g_iload_n (n := 21) hx 0 (dq tX10_river 12 rfl) rfl rfl ?_
          refine g_iconst (n := 22) hx (dq tX10_river 13 rfl) rfl ?_
          have e_74 : M_67 229 37 = M_52 229 37 := (m_68 229 37 (by omega))
          have e_75 : M_67 229 38 = M_52 229 38 := (m_68 229 38 (by omega))
          have e_76 : M_67 229 39 = M_52 229 39 := (m_68 229 39 (by omega))
          have e_77 : M_67 (229 + 29) 0 = M_52 (229 + 29) 0 := (m_68 (229 + 29) 0 (by omega))
          have e_78 : M_67 (229 + 29) 1 = M_52 (229 + 29) 1 := (m_68 (229 + 29) 1 (by omega))
          have e_79 : M_67 (229 + 29) 3 = M_52 (229 + 29) 3 := (m_68 (229 + 29) 3 (by omega))
          have e_80 : M_67 229 47 = M_52 229 47 := (m_68 229 47 (by omega))
          have e_81 : M_67 (229 + 1) 7 = M_52 (229 + 1) 7 := (m_68 (229 + 1) 7 (by omega))
          refine g_iastX (n := 23) (q := 3) hx (aX10_29 (b := 229) (by decide)) (dq tX10_river 14 rfl) rfl (by decide) (by decide) (by decide) rfl (show 0 ≤ 0 by omega) (show 0 ≤ 12 by omega) (fun M_82 m_83e m_83 => ?_)
          have g_84 : Gm M_82 := Gm.frame g_69 (fun c j hcj => m_83 c j (by omega))
          have g_85 : On M_82 := On.frame g_70 (fun c j hcj => m_83 c j (by omega))
          have g_86 : Rl M_82 := Rl.frame g_71 (fun c j hcj => m_83 c j (by omega))
          have g_87 : Ty M_82 t9 n9 := Ty.frame g_72 (fun c j hcj => m_83 c j (by omega))
          refine g_iinc (n := 26) (lv' := [(1, vI 4), (0, aR Γ 229)]) hx 0 (dq tX10_river 15 rfl) rfl (by decide) rfl rfl ?_
          refine g_goto (n := 11) hx (dq tX10_river 16 rfl) (by decide) ?_
          refine g_iload_n (n := 12) hx 0 (dq tX10_river 7 rfl) rfl rfl ?_
          refine g_iconst (n := 13) hx (dq tX10_river 8 rfl) rfl ?_
          refine g_icmp_ge (n := 16) (t := 29) hx (dq tX10_river 9 rfl) (by decide) rfl ⟨by decide, by decide⟩ ⟨by decide, by decide⟩ (fun c_88 => ?_) (fun c_88 => ?_)
          · omega
          · refine g_aload_n (n := 17) hx 1 (dq tX10_river 10 rfl) rfl rfl ?_
            refine g_getR (n := 20) hx glX10_94 (sX10_29 (by decide)) (dq tX10_river 11 rfl) rfl ?_
            refine g_iload_n (n := 21) hx 0 (dq tX10_river 12 rfl) rfl rfl ?_
            refine g_iconst (n := 22) hx (dq tX10_river 13 rfl) rfl ?_
            have e_89 : M_82 229 37 = M_67 229 37 := (m_83 229 37 (by omega))
            have e_90 : M_82 229 38 = M_67 229 38 := (m_83 229 38 (by omega))
            have e_91 : M_82 229 39 = M_67 229 39 := (m_83 229 39 (by omega))
            have e_92 : M_82 (229 + 29) 0 = M_67 (229 + 29) 0 := (m_83 (229 + 29) 0 (by omega))
            have e_93 : M_82 (229 + 29) 1 = M_67 (229 + 29) 1 := (m_83 (229 + 29) 1 (by omega))
            have e_94 : M_82 (229 + 29) 2 = M_67 (229 + 29) 2 := (m_83 (229 + 29) 2 (by omega))
            have e_95 : M_82 229 47 = M_67 229 47 := (m_83 229 47 (by omega))
            have e_96 : M_82 (229 + 1) 7 = M_67 (229 + 1) 7 := (m_83 (229 + 1) 7 (by omega))
            refine g_iastX (n := 23) (q := 4) hx (aX10_29 (b := 229) (by decide)) (dq tX10_river 14 rfl) rfl (by decide) (by decide) (by decide) rfl (show (-2147483648) ≤ 0 by omega) (show 0 ≤ 2147483647 by omega) (fun M_97 m_98e m_98 => ?_)
            have g_99 : Gm M_97 := Gm.frame g_84 (fun c j hcj => m_98 c j (by omega))
            have g_100 : On M_97 := On.frame g_85 (fun c j hcj => m_98 c j (by omega))
            have g_101 : Rl M_97 := Rl.frame g_86 (fun c j hcj => m_98 c j (by omega))
            have g_102 : Ty M_97 t9 n9 := Ty.frame g_87 (fun c j hcj => m_98 c j (by omega))
            refine g_iinc (n := 26) (lv' := [(1, vI 5), (0, aR Γ 229)]) hx 0 (dq tX10_river 15 rfl) rfl (by decide) rfl rfl ?_
            refine g_goto (n := 11) hx (dq tX10_river 16 rfl) (by decide) ?_
            refine g_iload_n (n := 12) hx 0 (dq tX10_river 7 rfl) rfl rfl ?_
            refine g_iconst (n := 13) hx (dq tX10_river 8 rfl) rfl ?_
            refine g_icmp_ge (n := 16) (t := 29) hx (dq tX10_river 9 rfl) (by decide) rfl ⟨by decide, by decide⟩ ⟨by decide, by decide⟩ (fun c_103 => ?_) (fun c_103 => ?_)
            · refine g_iconst (n := 30) hx (dq tX10_river 17 rfl) rfl ?_
              refine g_istore_n (n := 31) (lv' := [(1, vI 0), (0, aR Γ 229)]) hx (dq tX10_river 18 rfl) (by decide) rfl rfl ?_
              have L_106 : ∀ (n_ : Nat) (i_104 : Int) (M_105 : zM), (0 ≤ i_104) → (i_104 ≤ 9) → (∀ u_ v_, u_ ≠ 229 + 30 → M_105 u_ v_ = M_97 u_ v_) → (Gm M_105) → (On M_105) → (Rl M_105) → (Ty M_105 t9 n9) → ((9 - i_104).toNat = n_) → G Γ x 3 (QI Γ x (qctX10_river3 M t9 n9)) M_105 31 [(1, vI i_104), (0, aR Γ 229)] [] := by
                intro n_
                induction n_ using Nat.strongRecOn with
                | _ n_ ih_107 =>
                  intro i_104 M_105 h_114 h_115 f_108 g_109 g_110 g_111 g_112 hm_113
                  refine g_iload_n (n := 32) hx 0 (dq tX10_river 19 rfl) rfl rfl ?_
                  refine g_bipush (n := 34) hx (dq tX10_river 20 rfl) rfl (by decide) ?_
                  refine g_icmp_ge (n := 37) (t := 51) hx (dq tX10_river 21 rfl) (by decide) rfl ⟨by omega, by omega⟩ ⟨by decide, by decide⟩ (fun c_116 => ?_) (fun c_116 => ?_)
                  · refine g_iconst (n := 52) hx (dq tX10_river 29 rfl) rfl ?_
                    refine g_istore_n (n := 53) (lv' := [(1, vI 0), (0, aR Γ 229)]) hx (dq tX10_river 30 rfl) (by decide) rfl rfl ?_
                    have e_z0 : M_105 (229 + 29) 0 = 0 := ((((((f_108 (229 + 29) 0 (by omega)).trans (m_98 (229 + 29) 0 (by omega))).trans (m_83 (229 + 29) 0 (by omega))).trans (m_68 (229 + 29) 0 (by omega))).trans (m_53 (229 + 29) 0 (by omega)))).trans m_38e
                    have e_z1 : M_105 (229 + 29) 1 = 0 := (((((f_108 (229 + 29) 1 (by omega)).trans (m_98 (229 + 29) 1 (by omega))).trans (m_83 (229 + 29) 1 (by omega))).trans (m_68 (229 + 29) 1 (by omega)))).trans m_53e
                    have e_z2 : M_105 (229 + 29) 2 = 0 := ((((f_108 (229 + 29) 2 (by omega)).trans (m_98 (229 + 29) 2 (by omega))).trans (m_83 (229 + 29) 2 (by omega)))).trans m_68e
                    have e_z3 : M_105 (229 + 29) 3 = 0 := (((f_108 (229 + 29) 3 (by omega)).trans (m_98 (229 + 29) 3 (by omega)))).trans m_83e
                    have e_z47 : M_105 229 47 = 0 := (((((((f_108 229 47 (by omega)).trans (m_98 229 47 (by omega))).trans (m_83 229 47 (by omega))).trans (m_68 229 47 (by omega))).trans (m_53 229 47 (by omega))).trans (m_38 229 47 (by omega)))).trans m_23e
                    have e_r0 : M_105 (229 + 29) 0 = 0 := ((((((f_108 (229 + 29) 0 (by omega)).trans (m_98 (229 + 29) 0 (by omega))).trans (m_83 (229 + 29) 0 (by omega))).trans (m_68 (229 + 29) 0 (by omega))).trans (m_53 (229 + 29) 0 (by omega)))).trans m_38e
                    have e_r1 : M_105 (229 + 29) 1 = 0 := (((((f_108 (229 + 29) 1 (by omega)).trans (m_98 (229 + 29) 1 (by omega))).trans (m_83 (229 + 29) 1 (by omega))).trans (m_68 (229 + 29) 1 (by omega)))).trans m_53e
                    have e_r3 : M_105 (229 + 29) 3 = 0 := (((f_108 (229 + 29) 3 (by omega)).trans (m_98 (229 + 29) 3 (by omega)))).trans m_83e
                    have g_117 : Nw M_105 := Nw.nil e_r0 e_r1 e_r3
                    have e_118 : M_105 229 37 = M_82 229 37 := ((f_108 229 37 (by omega))).trans (m_98 229 37 (by omega))
                    have e_119 : M_105 229 38 = M_82 229 38 := ((f_108 229 38 (by omega))).trans (m_98 229 38 (by omega))
                    have e_120 : M_105 229 39 = M_82 229 39 := ((f_108 229 39 (by omega))).trans (m_98 229 39 (by omega))
                    have e_121 : M_105 (229 + 1) 7 = M_82 (229 + 1) 7 := ((f_108 (229 + 1) 7 (by omega))).trans (m_98 (229 + 1) 7 (by omega))
                    refine g_iconst (n := 54) hx (dq tX10_river 31 rfl) rfl ?_
                    refine g_istore_n (n := 55) (lv' := [(2, vI 1), (1, vI 0), (0, aR Γ 229)]) hx (dq tX10_river 32 rfl) (by decide) rfl rfl ?_
                    have L_125 : ∀ (n_ : Nat) (i_122 : Int) (i_123 : Int) (M_124 : zM), (0 ≤ i_122) → (i_122 ≤ 1) → (0 ≤ i_123) → (i_123 ≤ 402) → (∀ u_ v_, (u_ ≠ 229 ∨ v_ ≠ 38) ∧ (u_ ≠ 229 ∨ v_ ≠ 39) ∧ (u_ ≠ 229 ∨ v_ ≠ 47) ∧ (u_ < 229 + 29 ∨ 229 + 37 ≤ u_) → M_124 u_ v_ = M_105 u_ v_) → (Gm M_124) → (On M_124) → (Rl M_124) → (Ty M_124 t9 n9) → (Nw M_124) → (i_122 = 1 → (M_124 229 39 = 0 ∧ M_124 229 38 ≤ M_124 229 37)) → (i_123 ≤ M_124 229 38) → (M_124 229 38 ≤ 402) → (i_122 = 1 → M_124 229 38 ≤ 400) → (i_122 = 1 → i_123 ≤ 40) → (i_122 = 1 → Rv9 t9 n9 (41 - i_123).toNat i_123 (sk t9 n9 (M_124 229 38).toNat, sr M_124) = River9 t9 n9) → (i_122 = 0 → Fr9 M_124 (River9 t9 n9)) → ((403 - M_124 229 38).toNat = n_) → G Γ x 3 (QI Γ x (qctX10_river3 M t9 n9)) M_124 55 [(2, vI i_122), (1, vI i_123), (0, aR Γ 229)] [] := by
                      intro n_
                      induction n_ using Nat.strongRecOn with
                      | _ n_ ih_126 =>
                        intro i_122 i_123 M_124 h_141 h_142 h_143 h_144 f_127 g_128 g_129 g_130 g_131 g_132 h_134 h_135 h_136 h_137 h_138 h_139 h_140 hm_133
                        refine g_iload_n (n := 56) hx 0 (dq tX10_river 33 rfl) rfl rfl ?_
                        refine g_if_eq (n := 59) (t := 75) hx (dq tX10_river 34 rfl) (by decide) rfl ⟨by omega, by omega⟩ (fun c_145 => ?_) (fun c_145 => ?_)
                        · refine g_aload_n (n := 76) hx 2 (dq tX10_river 43 rfl) rfl rfl ?_
                          refine g_iconst (n := 77) hx (dq tX10_river 44 rfl) rfl ?_
                          have e_146 : M_124 229 37 = M_105 229 37 := (f_127 229 37 (by omega))
                          have e_147 : M_124 (229 + 1) 7 = M_105 (229 + 1) 7 := (f_127 (229 + 1) 7 (by omega))
                          refine g_putI (n := 80) hx plX10_216 (sX10_37 (by decide)) (dq tX10_river 45 rfl) rfl (by omega) (by omega) (fun M_148 m_149e m_149 => ?_)
                          have g_150 : Gm M_148 := Gm.frame g_128 (fun c j hcj => m_149 c j (by omega))
                          have g_151 : On M_148 := On.frame g_129 (fun c j hcj => m_149 c j (by omega))
                          have g_152 : Rl M_148 := Rl.frame g_130 (fun c j hcj => m_149 c j (by omega))
                          have g_153 : Nw M_148 := Nw.gen g_132 (by have q39 := m_149 229 39 (by omega); omega) (fun j hj => m_149 _ j (by omega)) (fun v hv => m_149 _ v (by omega)) (fun l hl => m_149 _ l (by omega)) (fun l hl => m_149 _ l (by omega))
                          refine g_aload_n (n := 81) hx 2 (dq tX10_river 46 rfl) rfl rfl ?_
                          refine g_getI (n := 84) hx glX10_246 (sX10_39 (by decide)) (dq tX10_river 47 rfl) rfl (fun h_154l h_154u => ?_)
                          have e_155 : M_148 229 39 = M_124 229 39 := (m_149 229 39 (by omega))
                          refine g_if_le (n := 87) (t := 95) hx (dq tX10_river 48 rfl) (by decide) rfl (zrI h_154l h_154u (by decide) (by decide)) (fun c_156 => ?_) (fun c_156 => ?_)
                          · have e_157 : M_148 229 38 = M_124 229 38 := (m_149 229 38 (by omega))
                            have e_158 : M_148 (229 + 29) 0 = M_124 (229 + 29) 0 := (m_149 (229 + 29) 0 (by omega))
                            have e_159 : M_148 (229 + 29) 1 = M_124 (229 + 29) 1 := (m_149 (229 + 29) 1 (by omega))
                            have e_160 : M_148 (229 + 29) 2 = M_124 (229 + 29) 2 := (m_149 (229 + 29) 2 (by omega))
                            have e_161 : M_148 (229 + 29) 3 = M_124 (229 + 29) 3 := (m_149 (229 + 29) 3 (by omega))
                            have e_162 : M_148 229 47 = M_124 229 47 := (m_149 229 47 (by omega))
                            have e_163 : M_148 (229 + 1) 7 = M_124 (229 + 1) 7 := (m_149 (229 + 1) 7 (by omega))
                            obtain ⟨ra9, re9⟩ := Fr9.ok (h_140 (by omega)) (by omega)
                            refine g_aload_n (n := 96) hx 2 (dq tX10_river 54 rfl) rfl rfl ?_
                            refine g_callVv (n := 99) (As := []) (rest := []) hx (ctX10_begins3 Γ M_148 (by omega) g_150 g_153 g_152) mlX10_381 (obX10 (by decide)) (dq tX10_river 55 rfl) rfl (Nat.le_of_ble_eq_true rfl) (Nat.le_of_ble_eq_true rfl) (Nat.le_of_ble_eq_true rfl) rfl (fun M_165 p_167 => ?_)
                            obtain ⟨f_168, h_169, h_170, h_171, h_172, h_173, h_174, h_175, h_176, h_177, h_178, h_179, h_180⟩ := p_167
                            refine g_aload_n (n := 100) hx 2 (dq tX10_river 56 rfl) rfl rfl ?_
                            refine g_getR (n := 103) hx glX10_9 (sX10_1 (by decide)) (dq tX10_river 57 rfl) rfl ?_
                            refine g_iconst (n := 104) hx (dq tX10_river 58 rfl) rfl ?_
                            refine g_ialdX (n := 105) (q := 3) hx (aX10_1 (b := 229) (by decide)) (dq tX10_river 59 rfl) rfl (by decide) (by decide) (by decide) rfl (fun h_182l h_182u => ?_)
                            have h_182l : 0 ≤ M_165 (229 + 1) 3 := h_182l
                            have h_182u : M_165 (229 + 1) 3 ≤ 12 := h_182u
                            have e_183 : M_165 229 37 = M_148 229 37 := (f_168 229 37 (by omega))
                            have e_184 : M_165 229 38 = M_148 229 38 := (f_168 229 38 (by omega))
                            have e_185 : M_165 229 39 = M_148 229 39 := (f_168 229 39 (by omega))
                            have e_186 : M_165 (229 + 29) 0 = M_148 (229 + 29) 0 := (f_168 (229 + 29) 0 (by omega))
                            have e_187 : M_165 (229 + 29) 1 = M_148 (229 + 29) 1 := (f_168 (229 + 29) 1 (by omega))
                            have e_188 : M_165 (229 + 29) 2 = M_148 (229 + 29) 2 := (f_168 (229 + 29) 2 (by omega))
                            have e_189 : M_165 (229 + 29) 3 = M_148 (229 + 29) 3 := (f_168 (229 + 29) 3 (by omega))
                            have e_190 : M_165 229 47 = M_148 229 47 := (f_168 229 47 (by omega))
                            exact g_iret hx hr (dq tX10_river 60 rfl) (zrI h_182l h_182u (by decide) (by decide)) ⟨(fun u_ v_ huv_ => (((((((((((f_168 u_ v_ (by omega)).trans (m_149 u_ v_ (by omega))).trans (f_127 u_ v_ (by omega))).trans (f_108 u_ v_ (by omega))).trans (m_98 u_ v_ (by omega))).trans (m_83 u_ v_ (by omega))).trans (m_68 u_ v_ (by omega))).trans (m_53 u_ v_ (by omega))).trans (m_38 u_ v_ (by omega))).trans (m_23 u_ v_ (by omega))).trans (f_5 u_ v_ (by omega)))), h_169, h_170, h_171, (by omega), (((f_168 229 37 (by omega))).trans m_149e), (Or.inr ⟨riv_eq re9 (by omega) (by omega) (by omega), by omega, by omega, by omega, by omega, by omega, by omega, h_180⟩)⟩
                          · refine g_bipush (n := 89) hx (dq tX10_river 49 rfl) rfl (by decide) ?_
                            refine g_aload_n (n := 90) hx 2 (dq tX10_river 50 rfl) rfl rfl ?_
                            refine g_getI (n := 93) hx glX10_246 (sX10_39 (by decide)) (dq tX10_river 51 rfl) rfl (fun h_191l h_191u => ?_)
                            refine g_isub (n := 94) hx (dq tX10_river 52 rfl) rfl ?_
                            have e_192 : M_148 229 38 = M_124 229 38 := (m_149 229 38 (by omega))
                            have e_193 : M_148 (229 + 29) 0 = M_124 (229 + 29) 0 := (m_149 (229 + 29) 0 (by omega))
                            have e_194 : M_148 (229 + 29) 1 = M_124 (229 + 29) 1 := (m_149 (229 + 29) 1 (by omega))
                            have e_195 : M_148 (229 + 29) 2 = M_124 (229 + 29) 2 := (m_149 (229 + 29) 2 (by omega))
                            have e_196 : M_148 (229 + 29) 3 = M_124 (229 + 29) 3 := (m_149 (229 + 29) 3 (by omega))
                            have e_197 : M_148 229 47 = M_124 229 47 := (m_149 229 47 (by omega))
                            have e_198 : M_148 (229 + 1) 7 = M_124 (229 + 1) 7 := (m_149 (229 + 1) 7 (by omega))
                            exact g_iret hx hr (dq tX10_river 53 rfl) ⟨by omega, by omega⟩ ⟨(fun u_ v_ huv_ => ((((((((((m_149 u_ v_ (by omega)).trans (f_127 u_ v_ (by omega))).trans (f_108 u_ v_ (by omega))).trans (m_98 u_ v_ (by omega))).trans (m_83 u_ v_ (by omega))).trans (m_68 u_ v_ (by omega))).trans (m_53 u_ v_ (by omega))).trans (m_38 u_ v_ (by omega))).trans (m_23 u_ v_ (by omega))).trans (f_5 u_ v_ (by omega)))), g_150, g_151, g_152, (by omega), m_149e, (Or.inl ⟨_, Fr9.er (h_140 (by omega)) (by omega), by omega, fun u v h => ((((((((((m_149 u v (by omega)).trans (f_127 u v (by omega))).trans (f_108 u v (by omega))).trans (m_98 u v (by omega))).trans (m_83 u v (by omega))).trans (m_68 u v (by omega))).trans (m_53 u v (by omega))).trans (m_38 u v (by omega))).trans (m_23 u v (by omega))).trans (f_5 u v (by omega)))⟩)⟩
                        · refine g_aload_n (n := 60) hx 2 (dq tX10_river 35 rfl) rfl rfl ?_
                          refine g_iload_n (n := 61) hx 1 (dq tX10_river 36 rfl) rfl rfl ?_
                          have e_199 : M_124 229 37 = M_105 229 37 := (f_127 229 37 (by omega))
                          have e_200 : M_124 (229 + 1) 7 = M_105 (229 + 1) 7 := (f_127 (229 + 1) 7 (by omega))
                          refine g_callVv (n := 64) (As := [vI i_123]) (rest := []) hx (ctX10_riverClause3 Γ M_124 i_123 (by omega) (by omega) t9 n9 ((M_124 229 38).toNat) (by omega) (by omega) (by omega) g_131 g_132) mlX10_375 (obX10 (by decide)) (dq tX10_river 37 rfl) rfl (Nat.le_of_ble_eq_true rfl) (Nat.le_of_ble_eq_true rfl) (Nat.le_of_ble_eq_true rfl) rfl (fun M_202 p_204 => ?_)
                          obtain ⟨f_205, g_206, h_207, h_208, h_209, h_210⟩ := p_204
                          have g_211 : Gm M_202 := Gm.frame g_128 (fun c j hcj => f_205 c j (by omega))
                          have g_212 : On M_202 := On.frame g_129 (fun c j hcj => f_205 c j (by omega))
                          have g_213 : Rl M_202 := Rl.frame g_130 (fun c j hcj => f_205 c j (by omega))
                          have g_214 : Ty M_202 t9 n9 := Ty.frame g_131 (fun c j hcj => f_205 c j (by omega))
                          refine g_iinc (n := 67) (lv' := [(1, vI (i_123 + 1)), (2, vI i_122), (0, aR Γ 229)]) hx 1 (dq tX10_river 38 rfl) rfl (by decide) rfl rfl ?_
                          refine g_aload_n (n := 68) hx 2 (dq tX10_river 39 rfl) rfl rfl ?_
                          have e_215 : M_202 229 37 = M_124 229 37 := (f_205 229 37 (by omega))
                          have e_216 : M_202 (229 + 1) 7 = M_124 (229 + 1) 7 := (f_205 (229 + 1) 7 (by omega))
                          refine g_callVi (n := 71) (As := []) (rest := []) hx (ctX10_goesOn3 Γ M_202 t9 n9 ((M_202 229 38).toNat) (by omega) (by omega) g_214) mlX10_378 (obX10 (by decide)) (dq tX10_river 40 rfl) rfl (Nat.le_of_ble_eq_true rfl) (Nat.le_of_ble_eq_true rfl) (Nat.le_of_ble_eq_true rfl) rfl (fun z_217 M_218 h_219 p_220 => ?_)
                          obtain ⟨f_221, h_222, h_223, h_224, h_225, h_226, h_227⟩ := p_220
                          have g_228 : Gm M_218 := Gm.frame g_211 (fun c j hcj => f_221 c j (by omega))
                          have g_229 : On M_218 := On.frame g_212 (fun c j hcj => f_221 c j (by omega))
                          have g_230 : Rl M_218 := Rl.frame g_213 (fun c j hcj => f_221 c j (by omega))
                          have g_231 : Ty M_218 t9 n9 := Ty.frame g_214 (fun c j hcj => f_221 c j (by omega))
                          have g_232 : Nw M_218 := Nw.gen g_206 (by omega) (fun j hj => f_221 _ j (by omega)) (fun v hv => f_221 _ v (by omega)) (fun l hl => f_221 _ l (by omega)) (fun l hl => f_221 _ l (by omega))
                          refine g_istore_n (n := 72) (lv' := [(2, vI z_217), (1, vI (i_123 + 1)), (0, aR Γ 229)]) hx (dq tX10_river 41 rfl) (by decide) rfl rfl ?_
                          refine g_goto (n := 55) hx (dq tX10_river 42 rfl) (by decide) ?_
                          have e_233 : M_218 229 37 = M_202 229 37 := (f_221 229 37 (by omega))
                          have e_234 : M_218 (229 + 29) 0 = M_202 (229 + 29) 0 := (f_221 (229 + 29) 0 (by omega))
                          have e_235 : M_218 (229 + 29) 1 = M_202 (229 + 29) 1 := (f_221 (229 + 29) 1 (by omega))
                          have e_236 : M_218 (229 + 29) 2 = M_202 (229 + 29) 2 := (f_221 (229 + 29) 2 (by omega))
                          have e_237 : M_218 (229 + 29) 3 = M_202 (229 + 29) 3 := (f_221 (229 + 29) 3 (by omega))
                          have e_238 : M_218 229 47 = M_202 229 47 := (f_221 229 47 (by omega))
                          have e_239 : M_218 (229 + 1) 7 = M_202 (229 + 1) 7 := (f_221 (229 + 1) 7 (by omega))
                          exact ih_126 _ (by omega) z_217 (i_123 + 1) M_218 (by omega) (by omega) (by omega) (by omega) (fun u_ v_ huv_ => (((f_221 u_ v_ (by omega)).trans (f_205 u_ v_ (by omega))).trans (f_127 u_ v_ (by omega)))) g_228 g_229 g_230 g_231 g_232 (by omega) (by omega) (by omega) (by omega) (by omega) (fun hz => by have w1 : fst9 t9 n9 (sk t9 n9 (M_202 229 38).toNat) = 59 := (by omega); exact Rv_on (f := (41 - (i_123 + 1)).toNat) (h_139 (by omega)) (by omega) (oar_yes h_210 (by omega)) w1 (by omega) (by unfold nx; rw [(stp_op1 (t := t9) (n := n9) (a := sk t9 n9 (M_202 229 38).toNat) (by omega)).1]; exact sk_eq (by omega)) (sv_eq (by omega) (by omega) (by omega) (by omega) (by omega))) (fun hz => fr_end (f := (40 - i_123).toNat) (a := sk t9 n9 (M_202 229 38).toNat) (h_139 (by omega)) (by omega) h_210 (by omega) (sv_eq (by omega) (by omega) (by omega) (by omega) (by omega))) rfl
                    exact L_125 _ 1 0 M_105 (by omega) (by omega) (by omega) (by omega) (fun _ _ _ => rfl) g_109 g_110 g_111 g_112 g_117 (by omega) (by omega) (by omega) (by omega) (by omega) (fun _ => by rw [show (M_105 229 38).toNat = 0 by omega, show sr M_105 = (0, 0, 0, 0, 0) from (sv_eq (by omega) (by omega) (by omega) (by omega) (by omega))]; rfl) (fun hz => absurd hz (by omega)) rfl
                  · refine g_aload_n (n := 38) hx 1 (dq tX10_river 22 rfl) rfl rfl ?_
                    refine g_getR (n := 41) hx glX10_97 (sX10_30 (by decide)) (dq tX10_river 23 rfl) rfl ?_
                    refine g_iload_n (n := 42) hx 0 (dq tX10_river 24 rfl) rfl rfl ?_
                    refine g_bipush (n := 44) hx (dq tX10_river 25 rfl) rfl (by decide) ?_
                    have e_240 : M_105 229 37 = M_82 229 37 := ((f_108 229 37 (by omega))).trans (m_98 229 37 (by omega))
                    have e_241 : M_105 229 38 = M_82 229 38 := ((f_108 229 38 (by omega))).trans (m_98 229 38 (by omega))
                    have e_242 : M_105 229 39 = M_82 229 39 := ((f_108 229 39 (by omega))).trans (m_98 229 39 (by omega))
                    have e_243 : M_105 (229 + 29) 0 = M_82 (229 + 29) 0 := ((f_108 (229 + 29) 0 (by omega))).trans (m_98 (229 + 29) 0 (by omega))
                    have e_244 : M_105 (229 + 29) 1 = M_82 (229 + 29) 1 := ((f_108 (229 + 29) 1 (by omega))).trans (m_98 (229 + 29) 1 (by omega))
                    have e_245 : M_105 (229 + 29) 2 = M_82 (229 + 29) 2 := ((f_108 (229 + 29) 2 (by omega))).trans (m_98 (229 + 29) 2 (by omega))
                    have e_246 : M_105 (229 + 29) 3 = M_82 (229 + 29) 3 := ((f_108 (229 + 29) 3 (by omega))).trans (m_98 (229 + 29) 3 (by omega))
                    have e_247 : M_105 229 47 = M_82 229 47 := ((f_108 229 47 (by omega))).trans (m_98 229 47 (by omega))
                    have e_248 : M_105 (229 + 1) 7 = M_82 (229 + 1) 7 := ((f_108 (229 + 1) 7 (by omega))).trans (m_98 (229 + 1) 7 (by omega))
                    refine g_iast (n := 45) (q := i_104.toNat) hx (aX10_30 (b := 229) (by decide)) (dq tX10_river 26 rfl) rfl (by omega) (by omega) (by omega) rfl (by omega) (by omega) (fun M_249 m_250e m_250 => ?_)
                    have g_251 : Gm M_249 := Gm.frame g_109 (fun c j hcj => m_250 c j (by omega))
                    have g_252 : On M_249 := On.frame g_110 (fun c j hcj => m_250 c j (by omega))
                    have g_253 : Rl M_249 := Rl.frame g_111 (fun c j hcj => m_250 c j (by omega))
                    have g_254 : Ty M_249 t9 n9 := Ty.frame g_112 (fun c j hcj => m_250 c j (by omega))
                    refine g_iinc (n := 48) (lv' := [(1, vI (i_104 + 1)), (0, aR Γ 229)]) hx 0 (dq tX10_river 27 rfl) rfl (by decide) rfl rfl ?_
                    refine g_goto (n := 31) hx (dq tX10_river 28 rfl) (by decide) ?_
                    have e_255 : M_249 229 37 = M_105 229 37 := (m_250 229 37 (by omega))
                    have e_256 : M_249 229 38 = M_105 229 38 := (m_250 229 38 (by omega))
                    have e_257 : M_249 229 39 = M_105 229 39 := (m_250 229 39 (by omega))
                    have e_258 : M_249 (229 + 29) 0 = M_105 (229 + 29) 0 := (m_250 (229 + 29) 0 (by omega))
                    have e_259 : M_249 (229 + 29) 1 = M_105 (229 + 29) 1 := (m_250 (229 + 29) 1 (by omega))
                    have e_260 : M_249 (229 + 29) 2 = M_105 (229 + 29) 2 := (m_250 (229 + 29) 2 (by omega))
                    have e_261 : M_249 (229 + 29) 3 = M_105 (229 + 29) 3 := (m_250 (229 + 29) 3 (by omega))
                    have e_262 : M_249 229 47 = M_105 229 47 := (m_250 229 47 (by omega))
                    have e_263 : M_249 (229 + 1) 7 = M_105 (229 + 1) 7 := (m_250 (229 + 1) 7 (by omega))
                    exact ih_107 _ (by omega) (i_104 + 1) M_249 (by omega) (by omega) (fun u_ v_ huv_ => ((m_250 u_ v_ (by omega)).trans (f_108 u_ v_ (by omega)))) g_251 g_252 g_253 g_254 rfl
              have e_264 : M_97 229 37 = M_82 229 37 := (m_98 229 37 (by omega))
              have e_265 : M_97 229 38 = M_82 229 38 := (m_98 229 38 (by omega))
              have e_266 : M_97 229 39 = M_82 229 39 := (m_98 229 39 (by omega))
              have e_267 : M_97 (229 + 29) 0 = M_82 (229 + 29) 0 := (m_98 (229 + 29) 0 (by omega))
              have e_268 : M_97 (229 + 29) 1 = M_82 (229 + 29) 1 := (m_98 (229 + 29) 1 (by omega))
              have e_269 : M_97 (229 + 29) 2 = M_82 (229 + 29) 2 := (m_98 (229 + 29) 2 (by omega))
              have e_270 : M_97 (229 + 29) 3 = M_82 (229 + 29) 3 := (m_98 (229 + 29) 3 (by omega))
              have e_271 : M_97 229 47 = M_82 229 47 := (m_98 229 47 (by omega))
              have e_272 : M_97 (229 + 1) 7 = M_82 (229 + 1) 7 := (m_98 (229 + 1) 7 (by omega))
              exact L_106 _ 0 M_97 (by omega) (by omega) (fun _ _ _ => rfl) g_99 g_100 g_101 g_102 rfl
            · omega
