abbrev qctX10_drawn (M : zM) (m : Int) (n : Int) (p : Int) (what : Int) (z : Int) (M' : zM) : Prop := (∀ u_ v_, (u_ ≠ 229 ∨ v_ < 61 ∨ 80 ≤ v_) ∧ (u_ < 229 + 1 ∨ 229 + 29 ≤ u_) ∧ (u_ < 229 + 46 ∨ 229 + 57 ≤ u_) → M' u_ v_ = M u_ v_) ∧ Gm M' ∧ Rl M' ∧ On M' ∧ (Sm M M') ∧ (∀ j : Nat, j < 3600 → M' (229 + 56) j = M (229 + 56) j)
set_option maxHeartbeats 4000000 in
set_option maxRecDepth 100000 in
theorem ctX10_drawn (Γ : Gam) (M : zM) (m : Int) (hml : (-2147483648) ≤ m) (hmu : m ≤ 2147483647) (n : Int) (hnl : (-2147483648) ≤ n) (hnu : n ≤ 2147483647) (p : Int) (hpl : (-2147483648) ≤ p) (hpu : p ≤ 2147483647) (what : Int) (hwhatl : (-2147483648) ≤ what) (hwhatu : what ≤ 2147483647) (pre0 : M (229 + 1) 7 ≤ 9999) (gm : Gm M) (rl : Rl M) (on : On M) : CtI Γ yX10_drawn cX10_drawn 10 (some .int) 12 277 [aR Γ 229, vI m, vI n, vI p, vI what] M (qctX10_drawn M m n p what) := by
  refine met_i (by decide) (Nat.le_of_ble_eq_true rfl) (fun x hx hr => ?_)
  show G Γ x 10 (QI Γ x (qctX10_drawn M m n p what)) M 0 [(0, aR Γ 229), (1, vI m), (2, vI n), (3, vI p), (4, vI what)] []
  refine g_aload_n (n := 1) hx 0 (dq tX10_drawn 0 rfl) rfl rfl ?_
  refine g_callVi (n := 4) (As := []) (rest := []) hx (ctX10_isRiver Γ M ) mlX10_413 (obX10 (by decide)) (dq tX10_drawn 1 rfl) rfl (Nat.le_of_ble_eq_true rfl) (Nat.le_of_ble_eq_true rfl) (Nat.le_of_ble_eq_true rfl) rfl (fun z_1 M_2 h_3 p_4 => ?_)
  obtain ⟨rfl, b_6⟩ := p_4
  refine g_if_eq (n := 7) (t := 56) hx (dq tX10_drawn 2 rfl) (by decide) rfl h_3 (fun c_8 => ?_) (fun c_8 => ?_)
  · clear b_6
    refine g_iconst (n := 57) hx (dq tX10_drawn 27 rfl) rfl ?_
    exact g_iret hx hr (dq tX10_drawn 28 rfl) ⟨by decide, by decide⟩ ⟨(fun _ _ _ => rfl), gm, rl, on, (fun _ _ _ _ _ => rfl), (fun _ _ => rfl)⟩
  · have b_6 := b_6.resolve_left c_8
    obtain ⟨-, h_7⟩ := b_6
    refine g_iload_n (n := 8) hx 1 (dq tX10_drawn 3 rfl) rfl rfl ?_
    refine g_i2l (n := 9) hx (dq tX10_drawn 4 rfl) rfl (zrI hml hmu (by decide) (by decide)) ?_
    refine g_lconst (n := 10) (z := 1) hx (dq tX10_drawn 5 rfl) rfl (by decide) ?_
    refine g_ldc2 (n := 13) (z := 10) hx wd_1947 (by decide) (dq tX10_drawn 6 rfl) rfl ?_
    refine g_callSi (n := 16) (As := [vL m, vL 1, vL 10]) (rest := []) hx (ctX10_in Γ M m (by omega) (by omega) 1 (by omega) (by omega) 10 (by omega) (by omega)) mlX10_191 (dq tX10_drawn 7 rfl) rfl (Nat.le_of_ble_eq_true rfl) (Nat.le_of_ble_eq_true rfl) (Nat.le_of_ble_eq_true rfl) rfl (fun z_9 M_10 h_11 p_12 => ?_)
    obtain ⟨rfl, b_14, h_15⟩ := p_12
    refine g_if_eq (n := 19) (t := 56) hx (dq tX10_drawn 8 rfl) (by decide) rfl h_11 (fun c_18 => ?_) (fun c_18 => ?_)
    · clear b_14
      refine g_iconst (n := 57) hx (dq tX10_drawn 27 rfl) rfl ?_
      exact g_iret hx hr (dq tX10_drawn 28 rfl) ⟨by decide, by decide⟩ ⟨(fun _ _ _ => rfl), gm, rl, on, (fun _ _ _ _ _ => rfl), (fun _ _ => rfl)⟩
    · have b_14 := b_14.resolve_left c_18
      obtain ⟨-, h_16, h_17⟩ := b_14
      refine g_iload_n (n := 20) hx 2 (dq tX10_drawn 9 rfl) rfl rfl ?_
      refine g_i2l (n := 21) hx (dq tX10_drawn 10 rfl) rfl (zrI hnl hnu (by decide) (by decide)) ?_
      refine g_lconst (n := 22) (z := 1) hx (dq tX10_drawn 11 rfl) rfl (by decide) ?_
      refine g_ldc2 (n := 25) (z := 60) hx wd_1805 (by decide) (dq tX10_drawn 12 rfl) rfl ?_
      refine g_callSi (n := 28) (As := [vL n, vL 1, vL 60]) (rest := []) hx (ctX10_in Γ M n (by omega) (by omega) 1 (by omega) (by omega) 60 (by omega) (by omega)) mlX10_191 (dq tX10_drawn 13 rfl) rfl (Nat.le_of_ble_eq_true rfl) (Nat.le_of_ble_eq_true rfl) (Nat.le_of_ble_eq_true rfl) rfl (fun z_19 M_20 h_21 p_22 => ?_)
      obtain ⟨rfl, b_24, h_25⟩ := p_22
      refine g_if_eq (n := 31) (t := 56) hx (dq tX10_drawn 14 rfl) (by decide) rfl h_21 (fun c_28 => ?_) (fun c_28 => ?_)
      · clear b_24
        refine g_iconst (n := 57) hx (dq tX10_drawn 27 rfl) rfl ?_
        exact g_iret hx hr (dq tX10_drawn 28 rfl) ⟨by decide, by decide⟩ ⟨(fun _ _ _ => rfl), gm, rl, on, (fun _ _ _ _ _ => rfl), (fun _ _ => rfl)⟩
      · have b_24 := b_24.resolve_left c_28
        obtain ⟨-, h_26, h_27⟩ := b_24
        refine g_iload_n (n := 32) hx 3 (dq tX10_drawn 15 rfl) rfl rfl ?_
        refine g_i2l (n := 33) hx (dq tX10_drawn 16 rfl) rfl (zrI hpl hpu (by decide) (by decide)) ?_
        refine g_lconst (n := 34) (z := 0) hx (dq tX10_drawn 17 rfl) rfl (by decide) ?_
        refine g_ldc2 (n := 37) (z := 100) hx wd_1948 (by decide) (dq tX10_drawn 18 rfl) rfl ?_
        refine g_callSi (n := 40) (As := [vL p, vL 0, vL 100]) (rest := []) hx (ctX10_in Γ M p (by omega) (by omega) 0 (by omega) (by omega) 100 (by omega) (by omega)) mlX10_191 (dq tX10_drawn 19 rfl) rfl (Nat.le_of_ble_eq_true rfl) (Nat.le_of_ble_eq_true rfl) (Nat.le_of_ble_eq_true rfl) rfl (fun z_29 M_30 h_31 p_32 => ?_)
        obtain ⟨rfl, b_34, h_35⟩ := p_32
        refine g_if_eq (n := 43) (t := 56) hx (dq tX10_drawn 20 rfl) (by decide) rfl h_31 (fun c_38 => ?_) (fun c_38 => ?_)
        · clear b_34
          refine g_iconst (n := 57) hx (dq tX10_drawn 27 rfl) rfl ?_
          exact g_iret hx hr (dq tX10_drawn 28 rfl) ⟨by decide, by decide⟩ ⟨(fun _ _ _ => rfl), gm, rl, on, (fun _ _ _ _ _ => rfl), (fun _ _ => rfl)⟩
        · have b_34 := b_34.resolve_left c_38
          obtain ⟨-, h_36, h_37⟩ := b_34
          refine g_iload (n := 45) hx 4 (dq tX10_drawn 21 rfl) rfl rfl ?_
          refine g_i2l (n := 46) hx (dq tX10_drawn 22 rfl) rfl (zrI hwhatl hwhatu (by decide) (by decide)) ?_
          refine g_lconst (n := 47) (z := 0) hx (dq tX10_drawn 23 rfl) rfl (by decide) ?_
          refine g_ldc2 (n := 50) (z := 2) hx wd_1949 (by decide) (dq tX10_drawn 24 rfl) rfl ?_
          refine g_callSi (n := 53) (As := [vL what, vL 0, vL 2]) (rest := []) hx (ctX10_in Γ M what (by omega) (by omega) 0 (by omega) (by omega) 2 (by omega) (by omega)) mlX10_191 (dq tX10_drawn 25 rfl) rfl (Nat.le_of_ble_eq_true rfl) (Nat.le_of_ble_eq_true rfl) (Nat.le_of_ble_eq_true rfl) rfl (fun z_39 M_40 h_41 p_42 => ?_)
          obtain ⟨rfl, b_44, h_45⟩ := p_42
          refine g_if_ne (n := 56) (t := 58) hx (dq tX10_drawn 26 rfl) (by decide) rfl h_41 (fun c_48 => ?_) (fun c_48 => ?_)
          · have b_44 := b_44.resolve_left c_48
            obtain ⟨-, h_46, h_47⟩ := b_44
            refine g_aload_n (n := 59) hx 0 (dq tX10_drawn 29 rfl) rfl rfl ?_
            refine g_getR (n := 62) hx glX10_9 (sX10_1 (by decide)) (dq tX10_drawn 30 rfl) rfl ?_
            refine g_bipush (n := 64) hx (dq tX10_drawn 31 rfl) rfl (by decide) ?_
            refine g_ialdX (n := 65) (q := 16) hx (aX10_1 (b := 229) (by decide)) (dq tX10_drawn 32 rfl) rfl (by decide) (by decide) (by decide) rfl (fun h_49l h_49u => ?_)
            have h_49l : (-2147483648) ≤ M (229 + 1) 16 := h_49l
            have h_49u : M (229 + 1) 16 ≤ 2147483647 := h_49u
            refine g_istore (n := 67) (lv' := [(5, vI (M (229 + 1) 16)), (0, aR Γ 229), (1, vI m), (2, vI n), (3, vI p), (4, vI what)]) hx (dq tX10_drawn 33 rfl) (by decide) rfl rfl ?_
            refine g_iconst (n := 68) hx (dq tX10_drawn 34 rfl) rfl ?_
            refine g_istore (n := 70) (lv' := [(6, vI 0), (5, vI (M (229 + 1) 16)), (0, aR Γ 229), (1, vI m), (2, vI n), (3, vI p), (4, vI what)]) hx (dq tX10_drawn 35 rfl) (by decide) rfl rfl ?_
            refine g_iload (n := 72) hx 1 (dq tX10_drawn 36 rfl) rfl rfl ?_
            refine g_istore (n := 74) (lv' := [(7, vI (M (229 + 1) 16)), (6, vI 0), (5, vI (M (229 + 1) 16)), (0, aR Γ 229), (1, vI m), (2, vI n), (3, vI p), (4, vI what)]) hx (dq tX10_drawn 37 rfl) (by decide) rfl rfl ?_
            refine g_aload_n (n := 75) hx 3 (dq tX10_drawn 38 rfl) rfl rfl ?_
            refine g_callVv (n := 78) (As := []) (rest := []) hx (ctX10_forgetsCounts Γ M ) mlX10_578 (obX10 (by decide)) (dq tX10_drawn 39 rfl) rfl (Nat.le_of_ble_eq_true rfl) (Nat.le_of_ble_eq_true rfl) (Nat.le_of_ble_eq_true rfl) rfl (fun M_51 p_53 => ?_)
            have f_54 := p_53
            have g_55 : Gm M_51 := Gm.frame gm (fun c j hcj => f_54 c j (by omega))
            have g_56 : Rl M_51 := Rl.frame rl (fun c j hcj => f_54 c j (by omega))
            have g_57 : On M_51 := On.frame on (fun c j hcj => f_54 c j (by omega))
            refine g_aload_n (n := 79) hx 3 (dq tX10_drawn 40 rfl) rfl rfl ?_
            have e_58 : M_51 (229 + 1) 1 = M (229 + 1) 1 := (f_54 (229 + 1) 1 (by omega))
            have e_59 : M_51 (229 + 1) 3 = M (229 + 1) 3 := (f_54 (229 + 1) 3 (by omega))
            have e_60 : M_51 (229 + 1) 7 = M (229 + 1) 7 := (f_54 (229 + 1) 7 (by omega))
            refine g_callVv (n := 82) (As := []) (rest := []) hx (ctX10_keeps Γ M_51 (by omega) g_55 g_56 g_57) mlX10_517 (obX10 (by decide)) (dq tX10_drawn 41 rfl) rfl (Nat.le_of_ble_eq_true rfl) (Nat.le_of_ble_eq_true rfl) (Nat.le_of_ble_eq_true rfl) rfl (fun M_62 p_64 => ?_)
            obtain ⟨f_65, g_66, g_67, g_68, h_69, h_70, h_71⟩ := p_64
            refine g_iconst (n := 83) hx (dq tX10_drawn 42 rfl) rfl ?_
            refine g_istore (n := 85) (lv' := [(8, vI 0), (7, vI (M (229 + 1) 16)), (6, vI 0), (5, vI (M (229 + 1) 16)), (0, aR Γ 229), (1, vI m), (2, vI n), (3, vI p), (4, vI what)]) hx (dq tX10_drawn 43 rfl) (by decide) rfl rfl ?_
            have L_76 : ∀ (n_ : Nat) (i_72 : Int) (i_73 : Int) (i_74 : Int) (M_75 : zM), (0 ≤ i_72) → (i_72 ≤ 10) → ((-2147483648) ≤ i_73) → (i_73 ≤ 2147483647) → ((-2147483648) ≤ i_74) → (i_74 ≤ 2147483647) → (∀ u_ v_, (u_ ≠ 229 ∨ v_ < 61 ∨ 68 ≤ v_) ∧ (u_ ≠ 229 ∨ v_ < 78 ∨ 80 ≤ v_) ∧ (u_ < 229 + 1 ∨ 229 + 29 ≤ u_) ∧ (u_ < 229 + 46 ∨ 229 + 51 ≤ u_) → M_75 u_ v_ = M_62 u_ v_) → (Gm M_75) → (Rl M_75) → (On M_75) → (BlOk M_75 4) → (Sx M_75) → (M_75 (229 + 1) 7 ≤ 9999) → ((10 - i_72).toNat = n_) → G Γ x 10 (QI Γ x (qctX10_drawn M m n p what)) M_75 85 [(8, vI i_72), (7, vI i_73), (6, vI i_74), (5, vI (M (229 + 1) 16)), (0, aR Γ 229), (1, vI m), (2, vI n), (3, vI p), (4, vI what)] [] := by
              intro n_
              induction n_ using Nat.strongRecOn with
              | _ n_ ih_77 =>
                intro i_72 i_73 i_74 M_75 h_86 h_87 h_88 h_89 h_90 h_91 f_78 g_79 g_80 g_81 g_82 h_84 h_85 hm_83
                refine g_iload (n := 87) hx 0 (dq tX10_drawn 44 rfl) rfl rfl ?_
                refine g_iload_n (n := 88) hx 5 (dq tX10_drawn 45 rfl) rfl rfl ?_
                refine g_icmp_ge (n := 91) (t := 161) hx (dq tX10_drawn 46 rfl) (by decide) rfl ⟨by omega, by omega⟩ (zrI hml hmu (by decide) (by decide)) (fun c_92 => ?_) (fun c_92 => ?_)
                · refine g_aload_n (n := 162) hx 4 (dq tX10_drawn 81 rfl) rfl rfl ?_
                  refine g_getR (n := 165) hx glX10_9 (sX10_1 (by decide)) (dq tX10_drawn 82 rfl) rfl ?_
                  refine g_bipush (n := 167) hx (dq tX10_drawn 83 rfl) rfl (by decide) ?_
                  refine g_iload (n := 169) hx 3 (dq tX10_drawn 84 rfl) rfl rfl ?_
                  refine g_iastX (n := 170) (q := 16) hx (aX10_1 (b := 229) (by decide)) (dq tX10_drawn 85 rfl) rfl (by decide) (by decide) (by decide) rfl (show (-2147483648) ≤ M (229 + 1) 16 by omega) (show M (229 + 1) 16 ≤ 2147483647 by omega) (fun M_93 m_94e m_94 => ?_)
                  have g_95 : Gm M_93 := Gm.frame g_79 (fun c j hcj => m_94 c j (by omega))
                  have g_96 : Rl M_93 := Rl.frame g_80 (fun c j hcj => m_94 c j (by omega))
                  have g_97 : On M_93 := On.frame g_81 (fun c j hcj => m_94 c j (by omega))
                  have g_98 : BlOk M_93 4 := BlOk.frame g_82 (fun c j hcj => m_94 c j (by omega))
                  refine g_iload (n := 172) hx 8 (dq tX10_drawn 86 rfl) rfl rfl ?_
                  refine g_if_ne (n := 175) (t := 182) hx (dq tX10_drawn 87 rfl) (by decide) rfl (zrI hwhatl hwhatu (by decide) (by decide)) (fun c_99 => ?_) (fun c_99 => ?_)
                  · refine g_iload (n := 184) hx 8 (dq tX10_drawn 91 rfl) rfl rfl ?_
                    refine g_iconst (n := 185) hx (dq tX10_drawn 92 rfl) rfl ?_
                    refine g_icmp_ne (n := 188) (t := 195) hx (dq tX10_drawn 93 rfl) (by decide) rfl (zrI hwhatl hwhatu (by decide) (by decide)) ⟨by decide, by decide⟩ (fun c_100 => ?_) (fun c_100 => ?_)
                    · refine g_iload (n := 197) hx 2 (dq tX10_drawn 97 rfl) rfl rfl ?_
                      have e_101 : M_93 (229 + 1) 1 = M_75 (229 + 1) 1 := (m_94 (229 + 1) 1 (by omega))
                      have e_102 : M_93 (229 + 1) 3 = M_75 (229 + 1) 3 := (m_94 (229 + 1) 3 (by omega))
                      have e_103 : M_93 (229 + 1) 7 = M_75 (229 + 1) 7 := (m_94 (229 + 1) 7 (by omega))
                      exact g_iret hx hr (dq tX10_drawn 98 rfl) ⟨by omega, by omega⟩ ⟨(fun u_ v_ huv_ => ((((m_94 u_ v_ (by have q9 := huv_.2.1; clear huv_; omega)).trans (f_78 u_ v_ ⟨(by have q9 := huv_.1; clear huv_; omega), (by have q9 := huv_.1; clear huv_; omega), huv_.2.1, (by have q9 := huv_.2.2; clear huv_; omega)⟩)).trans (f_65 u_ v_ ⟨(by have q9 := huv_.2.2; clear huv_; omega), (by have q9 := huv_.1; clear huv_; omega), (by have q9 := huv_.1; clear huv_; omega)⟩)).trans (f_54 u_ v_ ⟨(by have q9 := huv_.1; clear huv_; omega), (by have q9 := huv_.1; clear huv_; omega), (by have q9 := huv_.1; clear huv_; omega), (by have q9 := huv_.1; clear huv_; omega), (by have q9 := huv_.1; clear huv_; omega), (by have q9 := huv_.1; clear huv_; omega)⟩))), g_95, g_96, g_97, (fun c j h1 h2 h3 => by
        by_cases z : c = 229 + 1 ∧ j = 16
        · obtain ⟨rfl, rfl⟩ := z; exact m_94e
        · exact (m_94 c j (by omega)).trans ((h_84 c j h1 h2 h3 (by omega)).trans (((f_78 (229 + 56) (900 * 4 + zof c + j) (by omega))).trans ((h_70 c j h1 h2 h3).trans ((f_54 c j (by omega))))))), (fun j hj => (((m_94 (229 + 56) j (by omega)).trans (f_78 (229 + 56) j (by omega)))).trans ((h_71 j hj).trans ((f_54 (229 + 56) j (by omega)))))⟩
                    · refine g_aload_n (n := 189) hx 4 (dq tX10_drawn 94 rfl) rfl rfl ?_
                      refine g_getI (n := 192) hx glX10_531 (sX10_63 (by decide)) (dq tX10_drawn 95 rfl) rfl (fun h_104l h_104u => ?_)
                      refine g_goto (n := 197) hx (dq tX10_drawn 96 rfl) (by decide) ?_
                      have e_105 : M_93 (229 + 1) 1 = M_75 (229 + 1) 1 := (m_94 (229 + 1) 1 (by omega))
                      have e_106 : M_93 (229 + 1) 3 = M_75 (229 + 1) 3 := (m_94 (229 + 1) 3 (by omega))
                      have e_107 : M_93 (229 + 1) 7 = M_75 (229 + 1) 7 := (m_94 (229 + 1) 7 (by omega))
                      exact g_iret hx hr (dq tX10_drawn 98 rfl) (zrI h_104l h_104u (by decide) (by decide)) ⟨(fun u_ v_ huv_ => ((((m_94 u_ v_ (by have q9 := huv_.2.1; clear huv_; omega)).trans (f_78 u_ v_ ⟨(by have q9 := huv_.1; clear huv_; omega), (by have q9 := huv_.1; clear huv_; omega), huv_.2.1, (by have q9 := huv_.2.2; clear huv_; omega)⟩)).trans (f_65 u_ v_ ⟨(by have q9 := huv_.2.2; clear huv_; omega), (by have q9 := huv_.1; clear huv_; omega), (by have q9 := huv_.1; clear huv_; omega)⟩)).trans (f_54 u_ v_ ⟨(by have q9 := huv_.1; clear huv_; omega), (by have q9 := huv_.1; clear huv_; omega), (by have q9 := huv_.1; clear huv_; omega), (by have q9 := huv_.1; clear huv_; omega), (by have q9 := huv_.1; clear huv_; omega), (by have q9 := huv_.1; clear huv_; omega)⟩))), g_95, g_96, g_97, (fun c j h1 h2 h3 => by
        by_cases z : c = 229 + 1 ∧ j = 16
        · obtain ⟨rfl, rfl⟩ := z; exact m_94e
        · exact (m_94 c j (by omega)).trans ((h_84 c j h1 h2 h3 (by omega)).trans (((f_78 (229 + 56) (900 * 4 + zof c + j) (by omega))).trans ((h_70 c j h1 h2 h3).trans ((f_54 c j (by omega))))))), (fun j hj => (((m_94 (229 + 56) j (by omega)).trans (f_78 (229 + 56) j (by omega)))).trans ((h_71 j hj).trans ((f_54 (229 + 56) j (by omega)))))⟩
                  · refine g_aload_n (n := 176) hx 4 (dq tX10_drawn 88 rfl) rfl rfl ?_
                    refine g_getI (n := 179) hx glX10_525 (sX10_61 (by decide)) (dq tX10_drawn 89 rfl) rfl (fun h_108l h_108u => ?_)
                    refine g_goto (n := 197) hx (dq tX10_drawn 90 rfl) (by decide) ?_
                    have e_109 : M_93 (229 + 1) 1 = M_75 (229 + 1) 1 := (m_94 (229 + 1) 1 (by omega))
                    have e_110 : M_93 (229 + 1) 3 = M_75 (229 + 1) 3 := (m_94 (229 + 1) 3 (by omega))
                    have e_111 : M_93 (229 + 1) 7 = M_75 (229 + 1) 7 := (m_94 (229 + 1) 7 (by omega))
                    exact g_iret hx hr (dq tX10_drawn 98 rfl) (zrI h_108l h_108u (by decide) (by decide)) ⟨(fun u_ v_ huv_ => ((((m_94 u_ v_ (by have q9 := huv_.2.1; clear huv_; omega)).trans (f_78 u_ v_ ⟨(by have q9 := huv_.1; clear huv_; omega), (by have q9 := huv_.1; clear huv_; omega), huv_.2.1, (by have q9 := huv_.2.2; clear huv_; omega)⟩)).trans (f_65 u_ v_ ⟨(by have q9 := huv_.2.2; clear huv_; omega), (by have q9 := huv_.1; clear huv_; omega), (by have q9 := huv_.1; clear huv_; omega)⟩)).trans (f_54 u_ v_ ⟨(by have q9 := huv_.1; clear huv_; omega), (by have q9 := huv_.1; clear huv_; omega), (by have q9 := huv_.1; clear huv_; omega), (by have q9 := huv_.1; clear huv_; omega), (by have q9 := huv_.1; clear huv_; omega), (by have q9 := huv_.1; clear huv_; omega)⟩))), g_95, g_96, g_97, (fun c j h1 h2 h3 => by
        by_cases z : c = 229 + 1 ∧ j = 16
        · obtain ⟨rfl, rfl⟩ := z; exact m_94e
        · exact (m_94 c j (by omega)).trans ((h_84 c j h1 h2 h3 (by omega)).trans (((f_78 (229 + 56) (900 * 4 + zof c + j) (by omega))).trans ((h_70 c j h1 h2 h3).trans ((f_54 c j (by omega))))))), (fun j hj => (((m_94 (229 + 56) j (by omega)).trans (f_78 (229 + 56) j (by omega)))).trans ((h_71 j hj).trans ((f_54 (229 + 56) j (by omega)))))⟩
                · refine g_aload_n (n := 92) hx 4 (dq tX10_drawn 47 rfl) rfl rfl ?_
                  refine g_getR (n := 95) hx glX10_9 (sX10_1 (by decide)) (dq tX10_drawn 48 rfl) rfl ?_
                  refine g_bipush (n := 97) hx (dq tX10_drawn 49 rfl) rfl (by decide) ?_
                  refine g_iload (n := 99) hx 1 (dq tX10_drawn 50 rfl) rfl rfl ?_
                  refine g_iastX (n := 100) (q := 16) hx (aX10_1 (b := 229) (by decide)) (dq tX10_drawn 51 rfl) rfl (by decide) (by decide) (by decide) rfl (show (-2147483648) ≤ i_73 by omega) (show i_73 ≤ 2147483647 by omega) (fun M_112 m_113e m_113 => ?_)
                  have g_114 : Gm M_112 := Gm.frame g_79 (fun c j hcj => m_113 c j (by omega))
                  have g_115 : Rl M_112 := Rl.frame g_80 (fun c j hcj => m_113 c j (by omega))
                  have g_116 : On M_112 := On.frame g_81 (fun c j hcj => m_113 c j (by omega))
                  have g_117 : BlOk M_112 4 := BlOk.frame g_82 (fun c j hcj => m_113 c j (by omega))
                  refine g_iconst (n := 101) hx (dq tX10_drawn 52 rfl) rfl ?_
                  refine g_istore (n := 103) (lv' := [(9, vI 0), (8, vI i_72), (7, vI i_73), (6, vI i_74), (5, vI (M (229 + 1) 16)), (0, aR Γ 229), (1, vI m), (2, vI n), (3, vI p), (4, vI what)]) hx (dq tX10_drawn 53 rfl) (by decide) rfl rfl ?_
                  have L_121 : ∀ (n_ : Nat) (i_118 : Int) (i_119 : Int) (M_120 : zM), (0 ≤ i_118) → (i_118 ≤ 60) → ((-2147483648) ≤ i_119) → (i_119 ≤ 2147483647) → (∀ u_ v_, (u_ ≠ 229 ∨ v_ < 61 ∨ 68 ≤ v_) ∧ (u_ ≠ 229 ∨ v_ < 78 ∨ 80 ≤ v_) ∧ (u_ < 229 + 1 ∨ 229 + 29 ≤ u_) ∧ (u_ < 229 + 46 ∨ 229 + 51 ≤ u_) → M_120 u_ v_ = M_112 u_ v_) → (Gm M_120) → (Rl M_120) → (On M_120) → (BlOk M_120 4) → (M_120 (229 + 1) 7 ≤ 9999 + i_118) → ((60 - i_118).toNat = n_) → G Γ x 10 (QI Γ x (qctX10_drawn M m n p what)) M_120 103 [(9, vI i_118), (8, vI i_72), (7, vI i_73), (6, vI i_119), (5, vI (M (229 + 1) 16)), (0, aR Γ 229), (1, vI m), (2, vI n), (3, vI p), (4, vI what)] [] := by
                    intro n_
                    induction n_ using Nat.strongRecOn with
                    | _ n_ ih_122 =>
                      intro i_118 i_119 M_120 h_130 h_131 h_132 h_133 f_123 g_124 g_125 g_126 g_127 h_129 hm_128
                      refine g_iload (n := 105) hx 0 (dq tX10_drawn 54 rfl) rfl rfl ?_
                      refine g_iload_n (n := 106) hx 7 (dq tX10_drawn 55 rfl) rfl rfl ?_
                      refine g_icmp_ge (n := 109) (t := 142) hx (dq tX10_drawn 56 rfl) (by decide) rfl ⟨by omega, by omega⟩ (zrI hnl hnu (by decide) (by decide)) (fun c_134 => ?_) (fun c_134 => ?_)
                      · refine g_aload_n (n := 143) hx 5 (dq tX10_drawn 72 rfl) rfl rfl ?_
                        refine g_getR (n := 146) hx glX10_9 (sX10_1 (by decide)) (dq tX10_drawn 73 rfl) rfl ?_
                        refine g_bipush (n := 148) hx (dq tX10_drawn 74 rfl) rfl (by decide) ?_
                        refine g_ialdX (n := 149) (q := 16) hx (aX10_1 (b := 229) (by decide)) (dq tX10_drawn 75 rfl) rfl (by decide) (by decide) (by decide) rfl (fun h_135l h_135u => ?_)
                        have h_135l : (-2147483648) ≤ M_120 (229 + 1) 16 := h_135l
                        have h_135u : M_120 (229 + 1) 16 ≤ 2147483647 := h_135u
                        refine g_istore (n := 151) (lv' := [(7, vI (M_120 (229 + 1) 16)), (9, vI i_118), (8, vI i_72), (6, vI i_119), (5, vI (M (229 + 1) 16)), (0, aR Γ 229), (1, vI m), (2, vI n), (3, vI p), (4, vI what)]) hx (dq tX10_drawn 76 rfl) (by decide) rfl rfl ?_
                        refine g_aload_n (n := 152) hx 5 (dq tX10_drawn 77 rfl) rfl rfl ?_
                        refine g_callVv (n := 155) (As := []) (rest := []) hx (ctX10_laysBack Γ M_120 g_125 g_127) mlX10_520 (obX10 (by decide)) (dq tX10_drawn 78 rfl) rfl (Nat.le_of_ble_eq_true rfl) (Nat.le_of_ble_eq_true rfl) (Nat.le_of_ble_eq_true rfl) rfl (fun M_137 p_139 => ?_)
                        obtain ⟨f_140, g_141, g_142, h_143, h_144, h_145, h_146⟩ := p_139
                        refine g_iinc (n := 158) (lv' := [(8, vI (i_72 + 1)), (7, vI (M_120 (229 + 1) 16)), (9, vI i_118), (6, vI i_119), (5, vI (M (229 + 1) 16)), (0, aR Γ 229), (1, vI m), (2, vI n), (3, vI p), (4, vI what)]) hx 2 (dq tX10_drawn 79 rfl) rfl (by decide) rfl rfl ?_
                        refine g_goto (n := 85) hx (dq tX10_drawn 80 rfl) (by decide) ?_
                        refine g_lv [0, 1, 3, 4, 5, 6, 7, 8, 9] rfl ?_
                        exact ih_77 _ (by omega) (i_72 + 1) (M_120 (229 + 1) 16) i_119 M_137 (by omega) (by omega) (by omega) (by omega) (by omega) (by omega) (fun u_ v_ huv_ => ((((f_140 u_ v_ ⟨huv_.2.2.1, (by have q9 := huv_.2.1; clear huv_; omega), (by have q9 := huv_.2.1; clear huv_; omega)⟩).trans (f_123 u_ v_ ⟨huv_.1, huv_.2.1, huv_.2.2.1, huv_.2.2.2⟩)).trans (m_113 u_ v_ (by have q9 := huv_.2.2.1; clear huv_; omega))).trans (f_78 u_ v_ ⟨huv_.1, huv_.2.1, huv_.2.2.1, huv_.2.2.2⟩))) h_144 g_141 h_145 g_142 (fun c j h1 h2 h3 _ => (h_143 c j h1 h2 h3).trans (f_140 (229 + 56) _ (by omega)).symm) h_146 rfl
                      · refine g_aload_n (n := 110) hx 5 (dq tX10_drawn 57 rfl) rfl rfl ?_
                        refine g_bipush (n := 112) hx (dq tX10_drawn 58 rfl) rfl (by decide) ?_
                        refine g_callVi (n := 115) (As := [vI 100]) (rest := []) hx (ctX10_draws Γ M_120 100 (by decide) (by decide)) mlX10_635 (obX10 (by decide)) (dq tX10_drawn 59 rfl) rfl (Nat.le_of_ble_eq_true rfl) (Nat.le_of_ble_eq_true rfl) (Nat.le_of_ble_eq_true rfl) rfl (fun z_147 M_148 h_149 p_150 => ?_)
                        have f_151 := p_150
                        have g_152 : Gm M_148 := Gm.frame g_124 (fun c j hcj => f_151 c j (by omega))
                        have g_153 : Rl M_148 := Rl.frame g_125 (fun c j hcj => f_151 c j (by omega))
                        have g_154 : On M_148 := On.frame g_126 (fun c j hcj => f_151 c j (by omega))
                        have g_155 : BlOk M_148 4 := BlOk.frame g_127 (fun c j hcj => f_151 c j (by omega))
                        refine g_iload_n (n := 116) hx 8 (dq tX10_drawn 60 rfl) rfl rfl ?_
                        refine g_icmp_ge (n := 119) (t := 132) hx (dq tX10_drawn 61 rfl) (by decide) rfl h_149 (zrI hpl hpu (by decide) (by decide)) (fun c_156 => ?_) (fun c_156 => ?_)
                        · refine g_aload_n (n := 133) hx 5 (dq tX10_drawn 68 rfl) rfl rfl ?_
                          have e_157 : M_148 (229 + 1) 1 = M_120 (229 + 1) 1 := (f_151 (229 + 1) 1 (by omega))
                          have e_158 : M_148 (229 + 1) 3 = M_120 (229 + 1) 3 := (f_151 (229 + 1) 3 (by omega))
                          have e_159 : M_148 (229 + 1) 7 = M_120 (229 + 1) 7 := (f_151 (229 + 1) 7 (by omega))
                          refine g_callVv (n := 136) (As := []) (rest := []) hx (ctX10_day Γ M_148 (by omega) g_152 g_153) mlX10_576 (obX10 (by decide)) (dq tX10_drawn 69 rfl) rfl (Nat.le_of_ble_eq_true rfl) (Nat.le_of_ble_eq_true rfl) (Nat.le_of_ble_eq_true rfl) rfl (fun M_161 p_163 => ?_)
                          obtain ⟨f_164, g_165, g_166, h_167⟩ := p_163
                          have g_168 : On M_161 := On.frame g_154 (fun c j hcj => f_164 c j (by omega))
                          have g_169 : BlOk M_161 4 := BlOk.frame g_155 (fun c j hcj => f_164 c j (by omega))
                          refine g_iinc (n := 139) (lv' := [(9, vI (i_118 + 1)), (8, vI i_72), (7, vI i_73), (6, vI i_119), (5, vI (M (229 + 1) 16)), (0, aR Γ 229), (1, vI m), (2, vI n), (3, vI p), (4, vI what)]) hx 0 (dq tX10_drawn 70 rfl) rfl (by decide) rfl rfl ?_
                          refine g_goto (n := 103) hx (dq tX10_drawn 71 rfl) (by decide) ?_
                          have e_170 : M_161 (229 + 1) 1 = M_148 (229 + 1) 1 := (f_164 (229 + 1) 1 (by omega))
                          have e_171 : M_161 (229 + 1) 3 = M_148 (229 + 1) 3 := (f_164 (229 + 1) 3 (by omega))
                          exact ih_122 _ (by omega) (i_118 + 1) i_119 M_161 (by omega) (by omega) (by omega) (by omega) (fun u_ v_ huv_ => (((f_164 u_ v_ ⟨(by have q9 := huv_.1; clear huv_; omega), (by have q9 := huv_.1; clear huv_; omega), (by have q9 := huv_.1; clear huv_; omega), (by have q9 := huv_.1; clear huv_; omega), (by have q9 := huv_.1; clear huv_; omega), (by have q9 := huv_.1; clear huv_; omega), (by have q9 := huv_.1; clear huv_; omega), (by have q9 := huv_.2.2.1; clear huv_; omega), (by have q9 := huv_.2.2.1; clear huv_; omega), (by have q9 := huv_.2.2.1; clear huv_; omega), (by have q9 := huv_.2.2.1; clear huv_; omega), (by have q9 := huv_.2.2.1; clear huv_; omega), (by have q9 := huv_.2.2.1; clear huv_; omega), (by have q9 := huv_.2.2.1; clear huv_; omega), (by have q9 := huv_.2.2.1; clear huv_; omega), (by have q9 := huv_.2.2.1; clear huv_; omega), (by have q9 := huv_.2.2.1; clear huv_; omega), (by have q9 := huv_.2.2.1; clear huv_; omega), (by have q9 := huv_.2.2.1; clear huv_; omega), (by have q9 := huv_.2.2.2; clear huv_; omega)⟩).trans (f_151 u_ v_ (by have q9 := huv_.2.2.1; clear huv_; omega))).trans (f_123 u_ v_ ⟨huv_.1, huv_.2.1, huv_.2.2.1, huv_.2.2.2⟩))) g_165 g_166 g_168 g_169 (by first | assumption | omega) rfl
                        · refine g_aload_n (n := 120) hx 5 (dq tX10_drawn 62 rfl) rfl rfl ?_
                          refine g_aload_n (n := 121) hx 5 (dq tX10_drawn 63 rfl) rfl rfl ?_
                          refine g_bipush (n := 123) hx (dq tX10_drawn 64 rfl) rfl (by decide) ?_
                          have e_172 : M_148 (229 + 1) 1 = M_120 (229 + 1) 1 := (f_151 (229 + 1) 1 (by omega))
                          have e_173 : M_148 (229 + 1) 3 = M_120 (229 + 1) 3 := (f_151 (229 + 1) 3 (by omega))
                          have e_174 : M_148 (229 + 1) 7 = M_120 (229 + 1) 7 := (f_151 (229 + 1) 7 (by omega))
                          refine g_callVi (n := 126) (As := [vI 10]) (rest := [aR Γ 229]) hx (ctX10_draws Γ M_148 10 (by decide) (by decide)) mlX10_635 (obX10 (by decide)) (dq tX10_drawn 65 rfl) rfl (Nat.le_of_ble_eq_true rfl) (Nat.le_of_ble_eq_true rfl) (Nat.le_of_ble_eq_true rfl) rfl (fun z_175 M_176 h_177 p_178 => ?_)
                          have f_179 := p_178
                          have g_180 : Gm M_176 := Gm.frame g_152 (fun c j hcj => f_179 c j (by omega))
                          have g_181 : Rl M_176 := Rl.frame g_153 (fun c j hcj => f_179 c j (by omega))
                          have g_182 : On M_176 := On.frame g_154 (fun c j hcj => f_179 c j (by omega))
                          have g_183 : BlOk M_176 4 := BlOk.frame g_155 (fun c j hcj => f_179 c j (by omega))
                          have e_184 : M_176 (229 + 1) 1 = M_148 (229 + 1) 1 := (f_179 (229 + 1) 1 (by omega))
                          have e_185 : M_176 (229 + 1) 3 = M_148 (229 + 1) 3 := (f_179 (229 + 1) 3 (by omega))
                          have e_186 : M_176 (229 + 1) 7 = M_148 (229 + 1) 7 := (f_179 (229 + 1) 7 (by omega))
                          refine g_callVv (n := 129) (As := [vI z_175]) (rest := []) hx (ctX10_floods Γ M_176 z_175 (by omega) (by omega) g_180 g_181) mlX10_514 (obX10 (by decide)) (dq tX10_drawn 66 rfl) rfl (Nat.le_of_ble_eq_true rfl) (Nat.le_of_ble_eq_true rfl) (Nat.le_of_ble_eq_true rfl) rfl (fun M_188 p_190 => ?_)
                          obtain ⟨f_191, g_192, g_193, h_194⟩ := p_190
                          have g_195 : BlOk M_188 4 := BlOk.frame g_183 (fun c j hcj => f_191 c j (by omega))
                          refine g_iinc (n := 132) (lv' := [(6, vI (i_119 + 1)), (9, vI i_118), (8, vI i_72), (7, vI i_73), (5, vI (M (229 + 1) 16)), (0, aR Γ 229), (1, vI m), (2, vI n), (3, vI p), (4, vI what)]) hx 3 (dq tX10_drawn 67 rfl) rfl (by decide) rfl rfl ?_
                          refine g_anyl (fun z_196 h_197 => ?_)
                          refine g_aload_n (n := 133) hx 5 (dq tX10_drawn 68 rfl) rfl rfl ?_
                          have e_198 : M_188 (229 + 1) 1 = M_176 (229 + 1) 1 := (f_191 (229 + 1) 1 (by omega))
                          have e_199 : M_188 (229 + 1) 3 = M_176 (229 + 1) 3 := (f_191 (229 + 1) 3 (by omega))
                          have e_200 : M_188 (229 + 1) 7 = M_176 (229 + 1) 7 := (f_191 (229 + 1) 7 (by omega))
                          refine g_callVv (n := 136) (As := []) (rest := []) hx (ctX10_day Γ M_188 (by omega) g_192 g_193) mlX10_576 (obX10 (by decide)) (dq tX10_drawn 69 rfl) rfl (Nat.le_of_ble_eq_true rfl) (Nat.le_of_ble_eq_true rfl) (Nat.le_of_ble_eq_true rfl) rfl (fun M_202 p_204 => ?_)
                          obtain ⟨f_205, g_206, g_207, h_208⟩ := p_204
                          have g_209 : On M_202 := On.frame h_194 (fun c j hcj => f_205 c j (by omega))
                          have g_210 : BlOk M_202 4 := BlOk.frame g_195 (fun c j hcj => f_205 c j (by omega))
                          refine g_iinc (n := 139) (lv' := [(9, vI (i_118 + 1)), (6, vI z_196), (8, vI i_72), (7, vI i_73), (5, vI (M (229 + 1) 16)), (0, aR Γ 229), (1, vI m), (2, vI n), (3, vI p), (4, vI what)]) hx 1 (dq tX10_drawn 70 rfl) rfl (by decide) rfl rfl ?_
                          refine g_goto (n := 103) hx (dq tX10_drawn 71 rfl) (by decide) ?_
                          have e_211 : M_202 (229 + 1) 1 = M_188 (229 + 1) 1 := (f_205 (229 + 1) 1 (by omega))
                          have e_212 : M_202 (229 + 1) 3 = M_188 (229 + 1) 3 := (f_205 (229 + 1) 3 (by omega))
                          refine g_lv [0, 2, 3, 1, 4, 5, 6, 7, 8, 9] rfl ?_
                          exact ih_122 _ (by omega) (i_118 + 1) z_196 M_202 (by omega) (by omega) (by omega) (by omega) (fun u_ v_ huv_ => (((((f_205 u_ v_ ⟨(by have q9 := huv_.1; clear huv_; omega), (by have q9 := huv_.1; clear huv_; omega), (by have q9 := huv_.1; clear huv_; omega), (by have q9 := huv_.1; clear huv_; omega), (by have q9 := huv_.1; clear huv_; omega), (by have q9 := huv_.1; clear huv_; omega), (by have q9 := huv_.1; clear huv_; omega), (by have q9 := huv_.2.2.1; clear huv_; omega), (by have q9 := huv_.2.2.1; clear huv_; omega), (by have q9 := huv_.2.2.1; clear huv_; omega), (by have q9 := huv_.2.2.1; clear huv_; omega), (by have q9 := huv_.2.2.1; clear huv_; omega), (by have q9 := huv_.2.2.1; clear huv_; omega), (by have q9 := huv_.2.2.1; clear huv_; omega), (by have q9 := huv_.2.2.1; clear huv_; omega), (by have q9 := huv_.2.2.1; clear huv_; omega), (by have q9 := huv_.2.2.1; clear huv_; omega), (by have q9 := huv_.2.2.1; clear huv_; omega), (by have q9 := huv_.2.2.1; clear huv_; omega), (by have q9 := huv_.2.2.2; clear huv_; omega)⟩).trans (f_191 u_ v_ ⟨(by have q9 := huv_.2.2.1; clear huv_; omega), (by have q9 := huv_.2.2.1; clear huv_; omega), (by have q9 := huv_.2.2.2; clear huv_; omega), (by have q9 := huv_.2.2.1; clear huv_; omega)⟩)).trans (f_179 u_ v_ (by have q9 := huv_.2.2.1; clear huv_; omega))).trans (f_151 u_ v_ (by have q9 := huv_.2.2.1; clear huv_; omega))).trans (f_123 u_ v_ ⟨huv_.1, huv_.2.1, huv_.2.2.1, huv_.2.2.2⟩))) g_206 g_207 g_209 g_210 (by first | assumption | omega) rfl
                  have e_213 : M_112 (229 + 1) 1 = M_75 (229 + 1) 1 := (m_113 (229 + 1) 1 (by omega))
                  have e_214 : M_112 (229 + 1) 3 = M_75 (229 + 1) 3 := (m_113 (229 + 1) 3 (by omega))
                  have e_215 : M_112 (229 + 1) 7 = M_75 (229 + 1) 7 := (m_113 (229 + 1) 7 (by omega))
                  exact L_121 _ 0 i_74 M_112 (by omega) (by omega) (by omega) (by omega) (fun _ _ _ => rfl) g_114 g_115 g_116 g_117 (by first | assumption | omega) rfl
            have e_216 : M_62 (229 + 1) 1 = M_51 (229 + 1) 1 := (f_65 (229 + 1) 1 (by omega))
            have e_217 : M_62 (229 + 1) 3 = M_51 (229 + 1) 3 := (f_65 (229 + 1) 3 (by omega))
            have e_218 : M_62 (229 + 1) 7 = M_51 (229 + 1) 7 := (f_65 (229 + 1) 7 (by omega))
            exact L_76 _ 0 (M (229 + 1) 16) 0 M_62 (by omega) (by omega) (by omega) (by omega) (by omega) (by omega) (fun _ _ _ => rfl) g_66 g_67 g_68 h_69 (fun c j h1 h2 h3 _ => ((h_70 c j h1 h2 h3).trans ((f_65 c j (by omega)).symm)).symm) (by omega) rfl
          · clear b_44
            refine g_iconst (n := 57) hx (dq tX10_drawn 27 rfl) rfl ?_
            exact g_iret hx hr (dq tX10_drawn 28 rfl) ⟨by decide, by decide⟩ ⟨(fun _ _ _ => rfl), gm, rl, on, (fun _ _ _ _ _ => rfl), (fun _ _ => rfl)⟩
