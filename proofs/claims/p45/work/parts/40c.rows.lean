abbrev qctX10_repaid (M : zM) (p : Int) (q : Int) (what : Int) (z : Int) (M' : zM) : Prop := M = M'
set_option maxHeartbeats 4000000 in
set_option maxRecDepth 100000 in
theorem ctX10_repaid (Γ : Gam) (M : zM) (p : Int) (hpl : (-2147483648) ≤ p) (hpu : p ≤ 2147483647) (q : Int) (hql : (-2147483648) ≤ q) (hqu : q ≤ 2147483647) (what : Int) (hwhatl : (-2147483648) ≤ what) (hwhatu : what ≤ 2147483647) (gm : Gm M) (rl : Rl M) : CtI Γ yX10_repaid cX10_repaid 10 (some .int) 8 189 [aR Γ 229, vI p, vI q, vI what] M (qctX10_repaid M p q what) := by
  refine met_i (by decide) (Nat.le_of_ble_eq_true rfl) (fun x hx hr => ?_)
  show G Γ x 10 (QI Γ x (qctX10_repaid M p q what)) M 0 [(0, aR Γ 229), (1, vI p), (2, vI q), (3, vI what)] []
  refine g_aload_n (n := 1) hx 0 (dq tX10_repaid 0 rfl) rfl rfl ?_
  refine g_iload_n (n := 2) hx 1 (dq tX10_repaid 1 rfl) rfl rfl ?_
  refine g_callVi (n := 5) (As := [vI p]) (rest := []) hx (ctX10_isVillage Γ M p (by omega) (by omega)) mlX10_419 (obX10 (by decide)) (dq tX10_repaid 2 rfl) rfl (Nat.le_of_ble_eq_true rfl) (Nat.le_of_ble_eq_true rfl) (Nat.le_of_ble_eq_true rfl) rfl (fun z_1 M_2 h_3 p_4 => ?_)
  obtain ⟨rfl, b_6⟩ := p_4
  refine g_if_eq (n := 8) (t := 31) hx (dq tX10_repaid 3 rfl) (by decide) rfl h_3 (fun c_10 => ?_) (fun c_10 => ?_)
  · clear b_6
    refine g_iconst (n := 32) hx (dq tX10_repaid 17 rfl) rfl ?_
    exact g_iret hx hr (dq tX10_repaid 18 rfl) ⟨by decide, by decide⟩ rfl
  · have b_6 := b_6.resolve_left c_10
    obtain ⟨-, h_7, h_8, h_9⟩ := b_6
    refine g_aload_n (n := 9) hx 0 (dq tX10_repaid 4 rfl) rfl rfl ?_
    refine g_iload_n (n := 10) hx 2 (dq tX10_repaid 5 rfl) rfl rfl ?_
    refine g_callVi (n := 13) (As := [vI q]) (rest := []) hx (ctX10_isVillage Γ M q (by omega) (by omega)) mlX10_419 (obX10 (by decide)) (dq tX10_repaid 6 rfl) rfl (Nat.le_of_ble_eq_true rfl) (Nat.le_of_ble_eq_true rfl) (Nat.le_of_ble_eq_true rfl) rfl (fun z_11 M_12 h_13 p_14 => ?_)
    obtain ⟨rfl, b_16⟩ := p_14
    refine g_if_eq (n := 16) (t := 31) hx (dq tX10_repaid 7 rfl) (by decide) rfl h_13 (fun c_20 => ?_) (fun c_20 => ?_)
    · clear b_16
      refine g_iconst (n := 32) hx (dq tX10_repaid 17 rfl) rfl ?_
      exact g_iret hx hr (dq tX10_repaid 18 rfl) ⟨by decide, by decide⟩ rfl
    · have b_16 := b_16.resolve_left c_20
      obtain ⟨-, h_17, h_18, h_19⟩ := b_16
      refine g_iload_n (n := 17) hx 1 (dq tX10_repaid 8 rfl) rfl rfl ?_
      refine g_iload_n (n := 18) hx 2 (dq tX10_repaid 9 rfl) rfl rfl ?_
      refine g_icmp_eq (n := 21) (t := 31) hx (dq tX10_repaid 10 rfl) (by decide) rfl (zrI hpl hpu (by decide) (by decide)) (zrI hql hqu (by decide) (by decide)) (fun c_21 => ?_) (fun c_21 => ?_)
      · refine g_iconst (n := 32) hx (dq tX10_repaid 17 rfl) rfl ?_
        exact g_iret hx hr (dq tX10_repaid 18 rfl) ⟨by decide, by decide⟩ rfl
      · refine g_iload_n (n := 22) hx 3 (dq tX10_repaid 11 rfl) rfl rfl ?_
        refine g_i2l (n := 23) hx (dq tX10_repaid 12 rfl) rfl (zrI hwhatl hwhatu (by decide) (by decide)) ?_
        refine g_lconst (n := 24) (z := 0) hx (dq tX10_repaid 13 rfl) rfl (by decide) ?_
        refine g_lconst (n := 25) (z := 1) hx (dq tX10_repaid 14 rfl) rfl (by decide) ?_
        refine g_callSi (n := 28) (As := [vL what, vL 0, vL 1]) (rest := []) hx (ctX10_in Γ M what (by omega) (by omega) 0 (by omega) (by omega) 1 (by omega) (by omega)) mlX10_191 (dq tX10_repaid 15 rfl) rfl (Nat.le_of_ble_eq_true rfl) (Nat.le_of_ble_eq_true rfl) (Nat.le_of_ble_eq_true rfl) rfl (fun z_22 M_23 h_24 p_25 => ?_)
        obtain ⟨rfl, b_27, h_28⟩ := p_25
        refine g_if_ne (n := 31) (t := 33) hx (dq tX10_repaid 16 rfl) (by decide) rfl h_24 (fun c_31 => ?_) (fun c_31 => ?_)
        · have b_27 := b_27.resolve_left c_31
          obtain ⟨-, h_29, h_30⟩ := b_27
          refine g_aload_n (n := 34) hx 0 (dq tX10_repaid 19 rfl) rfl rfl ?_
          refine g_bipush (n := 36) hx (dq tX10_repaid 20 rfl) rfl (by decide) ?_
          refine g_iload_n (n := 37) hx 1 (dq tX10_repaid 21 rfl) rfl rfl ?_
          refine g_iadd (n := 38) hx (dq tX10_repaid 22 rfl) rfl ?_
          refine g_callVi (n := 41) (As := [vI (20 + p)]) (rest := []) hx (ctX10_logsAt Γ M (20 + p) (by omega) (by omega)) mlX10_206 (obX10 (by decide)) (dq tX10_repaid 23 rfl) rfl (Nat.le_of_ble_eq_true rfl) (Nat.le_of_ble_eq_true rfl) (Nat.le_of_ble_eq_true rfl) rfl (fun z_32 M_33 h_34 p_35 => ?_)
          obtain rfl := p_35
          refine g_aload_n (n := 42) hx 0 (dq tX10_repaid 24 rfl) rfl rfl ?_
          refine g_iload_n (n := 43) hx 1 (dq tX10_repaid 25 rfl) rfl rfl ?_
          refine g_callVi (n := 46) (As := [vI p]) (rest := [vI z_32]) hx (ctX10_ownedBy Γ M p (by omega) (by omega) gm rl) mlX10_477 (obX10 (by decide)) (dq tX10_repaid 26 rfl) rfl (Nat.le_of_ble_eq_true rfl) (Nat.le_of_ble_eq_true rfl) (Nat.le_of_ble_eq_true rfl) rfl (fun z_37 M_38 h_39 p_40 => ?_)
          obtain rfl := p_40
          refine g_iand (n := 47) hx (dq tX10_repaid 27 rfl) rfl (fun z_42 h_43 h_441 h_442 => ?_)
          clear h_441 h_442
          refine g_istore (n := 49) (lv' := [(4, vI z_42), (0, aR Γ 229), (1, vI p), (2, vI q), (3, vI what)]) hx (dq tX10_repaid 28 rfl) (by decide) rfl rfl ?_
          refine g_bipush (n := 51) hx (dq tX10_repaid 29 rfl) rfl (by decide) ?_
          refine g_istore (n := 53) (lv' := [(5, vI (-2)), (4, vI z_42), (0, aR Γ 229), (1, vI p), (2, vI q), (3, vI what)]) hx (dq tX10_repaid 30 rfl) (by decide) rfl rfl ?_
          refine g_bipush (n := 55) hx (dq tX10_repaid 31 rfl) rfl (by decide) ?_
          refine g_istore (n := 57) (lv' := [(6, vI (-2)), (5, vI (-2)), (4, vI z_42), (0, aR Γ 229), (1, vI p), (2, vI q), (3, vI what)]) hx (dq tX10_repaid 32 rfl) (by decide) rfl rfl ?_
          refine g_iconst (n := 58) hx (dq tX10_repaid 33 rfl) rfl ?_
          refine g_istore (n := 60) (lv' := [(7, vI 0), (6, vI (-2)), (5, vI (-2)), (4, vI z_42), (0, aR Γ 229), (1, vI p), (2, vI q), (3, vI what)]) hx (dq tX10_repaid 34 rfl) (by decide) rfl rfl ?_
          have L_48 : ∀ (n_ : Nat) (i_45 : Int) (i_46 : Int) (i_47 : Int), (0 ≤ i_45) → (i_45 ≤ 4096) → ((-2147483648) ≤ i_46) → (i_46 ≤ 2147483647) → ((-2) ≤ i_47) → (i_47 ≤ 2147483647) → ((4096 - i_45).toNat = n_) → G Γ x 10 (QI Γ x (qctX10_repaid M p q what)) M 60 [(7, vI i_45), (6, vI i_46), (5, vI i_47), (4, vI z_42), (0, aR Γ 229), (1, vI p), (2, vI q), (3, vI what)] [] := by
            intro n_
            induction n_ using Nat.strongRecOn with
            | _ n_ ih_49 =>
              intro i_45 i_46 i_47 h_52 h_53 h_54 h_55 h_56 h_57 hm_51
              refine g_iload (n := 62) hx 0 (dq tX10_repaid 35 rfl) rfl rfl ?_
              refine g_sipush (n := 65) hx (dq tX10_repaid 36 rfl) rfl (by decide) ?_
              refine g_icmp_ge (n := 68) (t := 203) hx (dq tX10_repaid 37 rfl) (by decide) rfl ⟨by omega, by omega⟩ ⟨by decide, by decide⟩ (fun c_58 => ?_) (fun c_58 => ?_)
              · refine g_iload_n (n := 204) hx 7 (dq tX10_repaid 106 rfl) rfl rfl ?_
                refine g_if_ne (n := 207) (t := 212) hx (dq tX10_repaid 107 rfl) (by decide) rfl (zrI hwhatl hwhatu (by decide) (by decide)) (fun c_59 => ?_) (fun c_59 => ?_)
                · refine g_iload (n := 214) hx 2 (dq tX10_repaid 110 rfl) rfl rfl ?_
                  exact g_iret hx hr (dq tX10_repaid 111 rfl) ⟨by omega, by omega⟩ rfl
                · refine g_iload (n := 209) hx 1 (dq tX10_repaid 108 rfl) rfl rfl ?_
                  refine g_goto (n := 214) hx (dq tX10_repaid 109 rfl) (by decide) ?_
                  exact g_iret hx hr (dq tX10_repaid 111 rfl) ⟨by omega, by omega⟩ rfl
              · refine g_iload (n := 70) hx 0 (dq tX10_repaid 38 rfl) rfl rfl ?_
                refine g_iload (n := 72) hx 3 (dq tX10_repaid 39 rfl) rfl rfl ?_
                refine g_iand (n := 73) hx (dq tX10_repaid 40 rfl) rfl (fun z_60 h_61 h_621 h_622 => ?_)
                obtain ⟨h_623, h_624⟩ := h_622 (by omega) (by omega)
                clear h_621 h_622
                refine g_iload (n := 75) hx 0 (dq tX10_repaid 41 rfl) rfl rfl ?_
                refine g_icmp_ne (n := 78) (t := 197) hx (dq tX10_repaid 42 rfl) (by decide) rfl h_61 ⟨by omega, by omega⟩ (fun c_63 => ?_) (fun c_63 => ?_)
                · refine g_iinc (n := 200) (lv' := [(7, vI (i_45 + 1)), (6, vI i_46), (5, vI i_47), (4, vI z_42), (0, aR Γ 229), (1, vI p), (2, vI q), (3, vI what)]) hx 0 (dq tX10_repaid 104 rfl) rfl (by decide) rfl rfl ?_
                  refine g_goto (n := 60) hx (dq tX10_repaid 105 rfl) (by decide) ?_
                  exact ih_49 _ (by omega) (i_45 + 1) i_46 i_47 (by omega) (by omega) (by omega) (by omega) (by omega) (by omega) rfl
                · refine g_iconst (n := 79) hx (dq tX10_repaid 43 rfl) rfl ?_
                  refine g_istore (n := 81) (lv' := [(8, vI 0), (7, vI i_45), (6, vI i_46), (5, vI i_47), (4, vI z_42), (0, aR Γ 229), (1, vI p), (2, vI q), (3, vI what)]) hx (dq tX10_repaid 44 rfl) (by decide) rfl rfl ?_
                  refine g_iconst (n := 82) hx (dq tX10_repaid 45 rfl) rfl ?_
                  refine g_istore (n := 84) (lv' := [(9, vI 0), (8, vI 0), (7, vI i_45), (6, vI i_46), (5, vI i_47), (4, vI z_42), (0, aR Γ 229), (1, vI p), (2, vI q), (3, vI what)]) hx (dq tX10_repaid 46 rfl) (by decide) rfl rfl ?_
                  have L_66 : ∀ (n_ : Nat) (i_64 : Int) (i_65 : Int), (0 ≤ i_64) → (i_64 ≤ 12) → ((-2147483648) ≤ i_65) → (i_65 ≤ 2147483647) → ((12 - i_64).toNat = n_) → G Γ x 10 (QI Γ x (qctX10_repaid M p q what)) M 84 [(9, vI i_64), (8, vI i_65), (7, vI i_45), (6, vI i_46), (5, vI i_47), (4, vI z_42), (0, aR Γ 229), (1, vI p), (2, vI q), (3, vI what)] [] := by
                    intro n_
                    induction n_ using Nat.strongRecOn with
                    | _ n_ ih_67 =>
                      intro i_64 i_65 h_70 h_71 h_72 h_73 hm_69
                      refine g_iload (n := 86) hx 0 (dq tX10_repaid 47 rfl) rfl rfl ?_
                      refine g_aload_n (n := 87) hx 6 (dq tX10_repaid 48 rfl) rfl rfl ?_
                      refine g_getR (n := 90) hx glX10_9 (sX10_1 (by decide)) (dq tX10_repaid 49 rfl) rfl ?_
                      refine g_iconst (n := 91) hx (dq tX10_repaid 50 rfl) rfl ?_
                      refine g_ialdX (n := 92) (q := 3) hx (aX10_1 (b := 229) (by decide)) (dq tX10_repaid 51 rfl) rfl (by decide) (by decide) (by decide) rfl (fun h_74l h_74u => ?_)
                      have h_74l : 0 ≤ M (229 + 1) 3 := h_74l
                      have h_74u : M (229 + 1) 3 ≤ 12 := h_74u
                      refine g_icmp_ge (n := 95) (t := 127) hx (dq tX10_repaid 52 rfl) (by decide) rfl ⟨by omega, by omega⟩ (zrI h_74l h_74u (by decide) (by decide)) (fun c_75 => ?_) (fun c_75 => ?_)
                      · refine g_iload (n := 129) hx 4 (dq tX10_repaid 70 rfl) rfl rfl ?_
                        refine g_bipush (n := 131) hx (dq tX10_repaid 71 rfl) rfl (by decide) ?_
                        have J_78 : ∀ (j_77 : Int),  (0 ≤ j_77) → (j_77 ≤ 1) → G Γ x 10 (QI Γ x (qctX10_repaid M p q what)) M 166 [(9, vI i_64), (8, vI i_65), (7, vI i_45), (6, vI i_46), (5, vI i_47), (4, vI z_42), (0, aR Γ 229), (1, vI p), (2, vI q), (3, vI what)] [vI j_77] := by
                          intro j_77 h_79 h_80
                          refine g_istore (n := 168) (lv' := [(9, vI j_77), (8, vI i_65), (7, vI i_45), (6, vI i_46), (5, vI i_47), (4, vI z_42), (0, aR Γ 229), (1, vI p), (2, vI q), (3, vI what)]) hx (dq tX10_repaid 87 rfl) (by decide) rfl rfl ?_
                          refine g_iload (n := 170) hx 1 (dq tX10_repaid 88 rfl) rfl rfl ?_
                          refine g_aload_n (n := 171) hx 6 (dq tX10_repaid 89 rfl) rfl rfl ?_
                          refine g_getR (n := 174) hx glX10_31 (sX10_8 (by decide)) (dq tX10_repaid 90 rfl) rfl ?_
                          refine g_bipush (n := 176) hx (dq tX10_repaid 91 rfl) rfl (by decide) ?_
                          refine g_iload_n (n := 177) hx 7 (dq tX10_repaid 92 rfl) rfl rfl ?_
                          refine g_imul (n := 178) hx (dq tX10_repaid 93 rfl) rfl ?_
                          refine g_iload_n (n := 179) hx 8 (dq tX10_repaid 94 rfl) rfl rfl ?_
                          refine g_iadd (n := 180) hx (dq tX10_repaid 95 rfl) rfl ?_
                          refine g_iald (n := 181) (q := ((6 * p) + q).toNat) hx (aX10_8 (b := 229) (by decide)) (dq tX10_repaid 96 rfl) rfl (by omega) (by omega) (by omega) rfl (fun h_81l h_81u => ?_)
                          refine g_icmp_lt (n := 184) (t := 197) hx (dq tX10_repaid 97 rfl) (by decide) rfl ⟨by omega, by omega⟩ (zrI h_81l h_81u (by decide) (by decide)) (fun c_82 => ?_) (fun c_82 => ?_)
                          · refine g_iinc (n := 200) (lv' := [(7, vI (i_45 + 1)), (9, vI j_77), (8, vI i_65), (6, vI i_46), (5, vI i_47), (4, vI z_42), (0, aR Γ 229), (1, vI p), (2, vI q), (3, vI what)]) hx 2 (dq tX10_repaid 104 rfl) rfl (by decide) rfl rfl ?_
                            refine g_goto (n := 60) hx (dq tX10_repaid 105 rfl) (by decide) ?_
                            refine g_lv [0, 3, 4, 5, 6, 7, 8, 9] rfl ?_
                            exact ih_49 _ (by omega) (i_45 + 1) i_46 i_47 (by omega) (by omega) (by omega) (by omega) (by omega) (by omega) rfl
                          · refine g_iload (n := 186) hx 0 (dq tX10_repaid 98 rfl) rfl rfl ?_
                            refine g_if_eq (n := 189) (t := 197) hx (dq tX10_repaid 99 rfl) (by decide) rfl ⟨by omega, by omega⟩ (fun c_83 => ?_) (fun c_83 => ?_)
                            · refine g_iinc (n := 200) (lv' := [(7, vI (i_45 + 1)), (9, vI j_77), (8, vI i_65), (6, vI i_46), (5, vI i_47), (4, vI z_42), (0, aR Γ 229), (1, vI p), (2, vI q), (3, vI what)]) hx 2 (dq tX10_repaid 104 rfl) rfl (by decide) rfl rfl ?_
                              refine g_goto (n := 60) hx (dq tX10_repaid 105 rfl) (by decide) ?_
                              refine g_lv [0, 3, 4, 5, 6, 7, 8, 9] rfl ?_
                              exact ih_49 _ (by omega) (i_45 + 1) i_46 i_47 (by omega) (by omega) (by omega) (by omega) (by omega) (by omega) rfl
                            · refine g_iload (n := 191) hx 2 (dq tX10_repaid 100 rfl) rfl rfl ?_
                              refine g_istore (n := 193) (lv' := [(5, vI i_45), (9, vI j_77), (8, vI i_65), (7, vI i_45), (6, vI i_46), (4, vI z_42), (0, aR Γ 229), (1, vI p), (2, vI q), (3, vI what)]) hx (dq tX10_repaid 101 rfl) (by decide) rfl rfl ?_
                              refine g_iload (n := 195) hx 2 (dq tX10_repaid 102 rfl) rfl rfl ?_
                              refine g_istore (n := 197) (lv' := [(6, vI i_65), (5, vI i_45), (9, vI j_77), (8, vI i_65), (7, vI i_45), (4, vI z_42), (0, aR Γ 229), (1, vI p), (2, vI q), (3, vI what)]) hx (dq tX10_repaid 103 rfl) (by decide) rfl rfl ?_
                              refine g_iinc (n := 200) (lv' := [(7, vI (i_45 + 1)), (6, vI i_65), (5, vI i_45), (9, vI j_77), (8, vI i_65), (4, vI z_42), (0, aR Γ 229), (1, vI p), (2, vI q), (3, vI what)]) hx 4 (dq tX10_repaid 104 rfl) rfl (by decide) rfl rfl ?_
                              refine g_goto (n := 60) hx (dq tX10_repaid 105 rfl) (by decide) ?_
                              refine g_lv [0, 1, 2, 5, 6, 7, 8, 9] rfl ?_
                              exact ih_49 _ (by omega) (i_45 + 1) i_65 i_45 (by omega) (by omega) (by omega) (by omega) (by omega) (by omega) rfl
                        refine g_icmp_eq (n := 134) (t := 161) hx (dq tX10_repaid 72 rfl) (by decide) rfl ⟨by omega, by omega⟩ ⟨by decide, by decide⟩ (fun c_76 => ?_) (fun c_76 => ?_)
                        · refine g_iconst (n := 162) hx (dq tX10_repaid 84 rfl) rfl ?_
                          refine g_goto (n := 166) hx (dq tX10_repaid 85 rfl) (by decide) ?_
                          exact J_78 1 (by omega) (by omega)
                        · refine g_iload (n := 136) hx 1 (dq tX10_repaid 73 rfl) rfl rfl ?_
                          refine g_iload (n := 138) hx 3 (dq tX10_repaid 74 rfl) rfl rfl ?_
                          refine g_icmp_lt (n := 141) (t := 161) hx (dq tX10_repaid 75 rfl) (by decide) rfl ⟨by omega, by omega⟩ ⟨by omega, by omega⟩ (fun c_84 => ?_) (fun c_84 => ?_)
                          · refine g_iconst (n := 162) hx (dq tX10_repaid 84 rfl) rfl ?_
                            refine g_goto (n := 166) hx (dq tX10_repaid 85 rfl) (by decide) ?_
                            exact J_78 1 (by omega) (by omega)
                          · refine g_iload (n := 143) hx 1 (dq tX10_repaid 76 rfl) rfl rfl ?_
                            refine g_iload (n := 145) hx 3 (dq tX10_repaid 77 rfl) rfl rfl ?_
                            refine g_icmp_ne (n := 148) (t := 165) hx (dq tX10_repaid 78 rfl) (by decide) rfl ⟨by omega, by omega⟩ ⟨by omega, by omega⟩ (fun c_85 => ?_) (fun c_85 => ?_)
                            · refine g_iconst (n := 166) hx (dq tX10_repaid 86 rfl) rfl ?_
                              exact J_78 0 (by omega) (by omega)
                            · refine g_iload (n := 150) hx 2 (dq tX10_repaid 79 rfl) rfl rfl ?_
                              refine g_callSi (n := 153) (As := [vI i_45]) (rest := []) hx (ctX10_bits Γ M i_45 (by omega) (by omega)) mlX10_210 (dq tX10_repaid 80 rfl) rfl (Nat.le_of_ble_eq_true rfl) (Nat.le_of_ble_eq_true rfl) (Nat.le_of_ble_eq_true rfl) rfl (fun z_86 M_87 h_88 p_89 => ?_)
                              obtain rfl := p_89
                              refine g_iload (n := 155) hx 4 (dq tX10_repaid 81 rfl) rfl rfl ?_
                              refine g_callSi (n := 158) (As := [vI i_47]) (rest := [vI z_86]) hx (ctX10_bits Γ M i_47 (by omega) (by omega)) mlX10_210 (dq tX10_repaid 82 rfl) rfl (Nat.le_of_ble_eq_true rfl) (Nat.le_of_ble_eq_true rfl) (Nat.le_of_ble_eq_true rfl) rfl (fun z_91 M_92 h_93 p_94 => ?_)
                              obtain rfl := p_94
                              refine g_icmp_ge (n := 161) (t := 165) hx (dq tX10_repaid 83 rfl) (by decide) rfl h_88 h_93 (fun c_96 => ?_) (fun c_96 => ?_)
                              · refine g_iconst (n := 166) hx (dq tX10_repaid 86 rfl) rfl ?_
                                exact J_78 0 (by omega) (by omega)
                              · refine g_iconst (n := 162) hx (dq tX10_repaid 84 rfl) rfl ?_
                                refine g_goto (n := 166) hx (dq tX10_repaid 85 rfl) (by decide) ?_
                                exact J_78 1 (by omega) (by omega)
                      · refine g_iload (n := 97) hx 1 (dq tX10_repaid 53 rfl) rfl rfl ?_
                        refine g_iload (n := 99) hx 2 (dq tX10_repaid 54 rfl) rfl rfl ?_
                        refine g_iload (n := 101) hx 0 (dq tX10_repaid 55 rfl) rfl rfl ?_
                        refine g_ishr (n := 102) hx (dq tX10_repaid 56 rfl) rfl (fun z_97 h_98 => ?_)
                        refine g_iconst (n := 103) hx (dq tX10_repaid 57 rfl) rfl ?_
                        refine g_iand (n := 104) hx (dq tX10_repaid 58 rfl) rfl (fun z_100 h_101 h_1021 h_1022 => ?_)
                        obtain ⟨h_1023, h_1024⟩ := h_1021 (by omega) (by omega)
                        clear h_1021 h_1022
                        refine g_iconst (n := 105) hx (dq tX10_repaid 59 rfl) rfl ?_
                        refine g_icmp_ne (n := 108) (t := 117) hx (dq tX10_repaid 60 rfl) (by decide) rfl h_101 ⟨by decide, by decide⟩ (fun c_103 => ?_) (fun c_103 => ?_)
                        · refine g_iconst (n := 118) hx (dq tX10_repaid 65 rfl) rfl ?_
                          refine g_iadd (n := 119) hx (dq tX10_repaid 66 rfl) rfl ?_
                          refine g_istore (n := 121) (lv' := [(8, vI (i_65 + 0)), (9, vI i_64), (7, vI i_45), (6, vI i_46), (5, vI i_47), (4, vI z_42), (0, aR Γ 229), (1, vI p), (2, vI q), (3, vI what)]) hx (dq tX10_repaid 67 rfl) (by decide) rfl rfl ?_
                          refine g_iinc (n := 124) (lv' := [(9, vI (i_64 + 1)), (8, vI (i_65 + 0)), (7, vI i_45), (6, vI i_46), (5, vI i_47), (4, vI z_42), (0, aR Γ 229), (1, vI p), (2, vI q), (3, vI what)]) hx 1 (dq tX10_repaid 68 rfl) rfl (by decide) rfl rfl ?_
                          refine g_goto (n := 84) hx (dq tX10_repaid 69 rfl) (by decide) ?_
                          exact ih_67 _ (by omega) (i_64 + 1) (i_65 + 0) (by omega) (by omega) (by omega) (by omega) rfl
                        · refine g_aload_n (n := 109) hx 6 (dq tX10_repaid 61 rfl) rfl rfl ?_
                          refine g_iload (n := 111) hx 0 (dq tX10_repaid 62 rfl) rfl rfl ?_
                          refine g_callVi (n := 114) (As := [vI i_64]) (rest := [vI i_65]) hx (ctX10_priceOf Γ M i_64 (by omega) (by omega) (by omega) gm) mlX10_486 (obX10 (by decide)) (dq tX10_repaid 63 rfl) rfl (Nat.le_of_ble_eq_true rfl) (Nat.le_of_ble_eq_true rfl) (Nat.le_of_ble_eq_true rfl) rfl (fun z_104 M_105 h_106 p_107 => ?_)
                          obtain rfl := p_107
                          refine g_goto (n := 118) hx (dq tX10_repaid 64 rfl) (by decide) ?_
                          refine g_iadd (n := 119) hx (dq tX10_repaid 66 rfl) rfl ?_
                          refine g_any (fun z_109 h_110 => ?_)
                          refine g_istore (n := 121) (lv' := [(8, vI z_109), (9, vI i_64), (7, vI i_45), (6, vI i_46), (5, vI i_47), (4, vI z_42), (0, aR Γ 229), (1, vI p), (2, vI q), (3, vI what)]) hx (dq tX10_repaid 67 rfl) (by decide) rfl rfl ?_
                          refine g_iinc (n := 124) (lv' := [(9, vI (i_64 + 1)), (8, vI z_109), (7, vI i_45), (6, vI i_46), (5, vI i_47), (4, vI z_42), (0, aR Γ 229), (1, vI p), (2, vI q), (3, vI what)]) hx 1 (dq tX10_repaid 68 rfl) rfl (by decide) rfl rfl ?_
                          refine g_goto (n := 84) hx (dq tX10_repaid 69 rfl) (by decide) ?_
                          exact ih_67 _ (by omega) (i_64 + 1) z_109 (by omega) (by omega) (by omega) (by omega) rfl
                  exact L_66 _ 0 0 (by omega) (by omega) (by omega) (by omega) rfl
          exact L_48 _ 0 (-2) (-2) (by omega) (by omega) (by omega) (by omega) (by omega) (by omega) rfl
        · clear b_27
          refine g_iconst (n := 32) hx (dq tX10_repaid 17 rfl) rfl ?_
          exact g_iret hx hr (dq tX10_repaid 18 rfl) ⟨by decide, by decide⟩ rfl
