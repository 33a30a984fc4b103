abbrev qctX5_reads (M : zM) (g : Nat) (z : Int) (M' : zM) : Prop := (∀ u_ v_, (u_ ≠ 7 ∨ v_ ≠ 2) ∧ (u_ ≠ 7 ∨ v_ ≠ 3) ∧ (u_ ≠ 7 ∨ v_ ≠ 4) ∧ (u_ ≠ 7 ∨ v_ ≠ 5) ∧ (u_ ≠ 18 ∨ v_ ≠ 1) ∧ (u_ ≠ g ∨ v_ ≠ 1) ∧ (u_ ≠ g ∨ v_ ≠ 2) ∧ (u_ ≠ g ∨ v_ ≠ 3) ∧ u_ ≠ g + 1 → M' u_ v_ = M u_ v_) ∧ (z = 0 ∨ (z = 1))
set_option maxHeartbeats 4000000 in
set_option maxRecDepth 100000 in
theorem ctX5_reads (Γ : Gam) (M : zM) (g : Nat) (hg : isX4 g)  : CtI Γ yX5_reads cX5_reads 7 (some .boolean) 29 707 [aR Γ 18, aR Γ g] M (qctX5_reads M g) := by
  refine met_i (by decide) (Nat.le_of_ble_eq_true rfl) (fun x hx hr => ?_)
  show G Γ x 7 (QI Γ x (qctX5_reads M g)) M 0 [(0, aR Γ 18), (1, aR Γ g)] []
  refine g_aload_n (n := 1) hx 1 (dq tX5_reads 0 rfl) rfl rfl ?_
  refine g_callVv (n := 4) (As := []) (rest := []) hx (ctX4_clear Γ M g hg) mlX5_15 (obX4 hg) (dq tX5_reads 1 rfl) rfl (Nat.le_of_ble_eq_true rfl) (Nat.le_of_ble_eq_true rfl) (Nat.le_of_ble_eq_true rfl) rfl (fun M_2 p_4 => ?_)
  have f_5 := p_4
  refine g_aload_n (n := 5) hx 0 (dq tX5_reads 2 rfl) rfl rfl ?_
  refine g_iconst (n := 6) hx (dq tX5_reads 3 rfl) rfl ?_
  refine g_putI (n := 9) hx plX5_20 (sX5_1 (by decide)) (dq tX5_reads 4 rfl) rfl (by omega) (by omega) (fun M_6 m_7e m_7 => ?_)
  refine g_aload_n (n := 10) hx 0 (dq tX5_reads 5 rfl) rfl rfl ?_
  refine g_getR (n := 13) hx glX5_9 (sX5_0 (by decide)) (dq tX5_reads 6 rfl) rfl ?_
  refine g_callVv (n := 16) (As := []) (rest := []) hx (ctX7_rewind Γ M_6 ) mlX5_24 (obX7 (by decide)) (dq tX5_reads 7 rfl) rfl (Nat.le_of_ble_eq_true rfl) (Nat.le_of_ble_eq_true rfl) (Nat.le_of_ble_eq_true rfl) rfl (fun M_9 p_11 => ?_)
  obtain ⟨f_12, h_13⟩ := p_11
  refine g_iconst (n := 17) hx (dq tX5_reads 8 rfl) rfl ?_
  refine g_istore_n (n := 18) (lv' := [(2, vI 0), (0, aR Γ 18), (1, aR Γ g)]) hx (dq tX5_reads 9 rfl) (by decide) rfl rfl ?_
  have L_16 : ∀ (n_ : Nat) (i_14 : Int) (M_15 : zM), (0 ≤ i_14) → (i_14 ≤ 12) → (∀ u_ v_, (u_ ≠ 7 ∨ v_ ≠ 2) ∧ (u_ ≠ 7 ∨ v_ ≠ 3) ∧ (u_ ≠ 7 ∨ v_ ≠ 4) ∧ (u_ ≠ g ∨ v_ ≠ 1) ∧ (u_ ≠ g ∨ v_ ≠ 2) ∧ (u_ ≠ g ∨ v_ ≠ 3) ∧ u_ ≠ g + 1 ∧ (u_ ≠ 7 ∨ v_ ≠ 5) ∧ (u_ ≠ 18 ∨ v_ ≠ 1) → M_15 u_ v_ = M_9 u_ v_) → ((12 - i_14).toNat = n_) → G Γ x 7 (QI Γ x (qctX5_reads M g)) M_15 18 [(2, vI i_14), (0, aR Γ 18), (1, aR Γ g)] [] := by
    intro n_
    induction n_ using Nat.strongRecOn with
    | _ n_ ih_17 =>
      intro i_14 M_15 h_20 h_21 f_18 hm_19
      refine g_iload_n (n := 19) hx 0 (dq tX5_reads 10 rfl) rfl rfl ?_
      refine g_bipush (n := 21) hx (dq tX5_reads 11 rfl) rfl (by decide) ?_
      refine g_icmp_gt (n := 24) (t := 228) hx (dq tX5_reads 12 rfl) (by decide) rfl ⟨by omega, by omega⟩ ⟨by decide, by decide⟩ (fun c_22 => ?_) (fun c_22 => ?_)
      · omega
      · refine g_aload_n (n := 25) hx 1 (dq tX5_reads 13 rfl) rfl rfl ?_
        refine g_getR (n := 28) hx glX5_9 (sX5_0 (by decide)) (dq tX5_reads 14 rfl) rfl ?_
        refine g_ldcS (n := 30) (q := 26) hx rfl rfl rfl (dq tX5_reads 15 rfl) rfl ?_
        refine g_callVi (n := 33) (As := [sR Γ 26]) (rest := []) hx (ctX7_wordIn Γ M_15 26 _ rfl (by decide)) mlX5_31 (obX7 (by decide)) (dq tX5_reads 16 rfl) rfl (Nat.le_of_ble_eq_true rfl) (Nat.le_of_ble_eq_true rfl) (Nat.le_of_ble_eq_true rfl) rfl (fun z_23 M_24 h_25 p_26 => ?_)
        obtain rfl := p_26
        refine g_istore_n (n := 34) (lv' := [(3, vI z_23), (2, vI i_14), (0, aR Γ 18), (1, aR Γ g)]) hx (dq tX5_reads 17 rfl) (by decide) rfl rfl ?_
        refine g_iload_n (n := 35) hx 0 (dq tX5_reads 18 rfl) rfl rfl ?_
        refine g_iconst (n := 36) hx (dq tX5_reads 19 rfl) rfl ?_
        refine g_icmp_ne (n := 39) (t := 48) hx (dq tX5_reads 20 rfl) (by decide) rfl h_25 ⟨by decide, by decide⟩ (fun c_28 => ?_) (fun c_28 => ?_)
        · refine g_iload_n (n := 49) hx 1 (dq tX5_reads 26 rfl) rfl rfl ?_
          refine g_bipush (n := 51) hx (dq tX5_reads 27 rfl) rfl (by decide) ?_
          refine g_icmp_ne (n := 54) (t := 63) hx (dq tX5_reads 28 rfl) (by decide) rfl ⟨by omega, by omega⟩ ⟨by decide, by decide⟩ (fun c_29 => ?_) (fun c_29 => ?_)
          · refine g_aload_n (n := 64) hx 2 (dq tX5_reads 34 rfl) rfl rfl ?_
            refine g_getR (n := 67) hx glX5_9 (sX5_0 (by decide)) (dq tX5_reads 35 rfl) rfl ?_
            refine g_callVv (n := 70) (As := []) (rest := []) hx (ctX7_pass Γ M_15 ) mlX5_39 (obX7 (by decide)) (dq tX5_reads 36 rfl) rfl (Nat.le_of_ble_eq_true rfl) (Nat.le_of_ble_eq_true rfl) (Nat.le_of_ble_eq_true rfl) rfl (fun M_31 p_33 => ?_)
            have f_34 := p_33
            refine g_aload_n (n := 71) hx 3 (dq tX5_reads 37 rfl) rfl rfl ?_
            refine g_iload_n (n := 72) hx 0 (dq tX5_reads 38 rfl) rfl rfl ?_
            refine g_callVi (n := 75) (As := [vI z_23]) (rest := []) hx (ctX4_begin Γ M_31 g hg z_23 (by omega) (by omega)) mlX5_42 (obX4 hg) (dq tX5_reads 39 rfl) rfl (Nat.le_of_ble_eq_true rfl) (Nat.le_of_ble_eq_true rfl) (Nat.le_of_ble_eq_true rfl) rfl (fun z_35 M_36 h_37 p_38 => ?_)
            have f_39 := p_38
            refine g_istore (n := 77) (lv' := [(4, vI z_35), (3, vI z_23), (2, vI i_14), (0, aR Γ 18), (1, aR Γ g)]) hx (dq tX5_reads 40 rfl) (by decide) rfl rfl ?_
            refine g_iload_n (n := 78) hx 1 (dq tX5_reads 41 rfl) rfl rfl ?_
            refine g_iconst (n := 79) hx (dq tX5_reads 42 rfl) rfl ?_
            have J_42 : ∀ (j_41 : Int),  (0 ≤ j_41) → (j_41 ≤ 1) → G Γ x 7 (QI Γ x (qctX5_reads M g)) M_36 92 [(4, vI z_35), (3, vI z_23), (2, vI i_14), (0, aR Γ 18), (1, aR Γ g)] [vI j_41] := by
              intro j_41 h_43 h_44
              refine g_istore (n := 94) (lv' := [(5, vI j_41), (4, vI z_35), (3, vI z_23), (2, vI i_14), (0, aR Γ 18), (1, aR Γ g)]) hx (dq tX5_reads 50 rfl) (by decide) rfl rfl ?_
              refine g_iload (n := 96) hx 0 (dq tX5_reads 51 rfl) rfl rfl ?_
              refine g_if_eq (n := 99) (t := 109) hx (dq tX5_reads 52 rfl) (by decide) rfl ⟨by omega, by omega⟩ (fun c_45 => ?_) (fun c_45 => ?_)
              · refine g_iload (n := 111) hx 0 (dq tX5_reads 59 rfl) rfl rfl ?_
                refine g_if_eq (n := 114) (t := 126) hx (dq tX5_reads 60 rfl) (by decide) rfl ⟨by omega, by omega⟩ (fun c_46 => ?_) (fun c_46 => ?_)
                · refine g_iconst (n := 127) hx (dq tX5_reads 66 rfl) rfl ?_
                  refine g_goto (n := 131) hx (dq tX5_reads 67 rfl) (by decide) ?_
                  refine g_istore (n := 133) (lv' := [(6, vI 1), (5, vI j_41), (4, vI z_35), (3, vI z_23), (2, vI i_14), (0, aR Γ 18), (1, aR Γ g)]) hx (dq tX5_reads 69 rfl) (by decide) rfl rfl ?_
                  refine g_iload (n := 135) hx 0 (dq tX5_reads 70 rfl) rfl rfl ?_
                  refine g_if_eq (n := 138) (t := 149) hx (dq tX5_reads 71 rfl) (by decide) rfl ⟨by decide, by decide⟩ (fun c_47 => ?_) (fun c_47 => ?_)
                  · omega
                  · refine g_aload_n (n := 139) hx 5 (dq tX5_reads 72 rfl) rfl rfl ?_
                    refine g_aload_n (n := 140) hx 6 (dq tX5_reads 73 rfl) rfl rfl ?_
                    refine g_iconst (n := 141) hx (dq tX5_reads 74 rfl) rfl ?_
                    refine g_callVi (n := 144) (As := [aR Γ g, vI 0]) (rest := []) hx (cttest_0 Γ M_36 g hg 0 (by decide) (by decide)) mlX5_56 (obX5 (by decide)) (dq tX5_reads 75 rfl) rfl (Nat.le_of_ble_eq_true rfl) (Nat.le_of_ble_eq_true rfl) (Nat.le_of_ble_eq_true rfl) rfl (fun z_48 M_49 h_50 p_51 => ?_)
                    obtain ⟨f_52, b_53⟩ := p_51
                    refine g_if_ne (n := 147) (t := 149) hx (dq tX5_reads 76 rfl) (by decide) rfl h_50 (fun c_54 => ?_) (fun c_54 => ?_)
                    · have b_53 := b_53.resolve_left c_54
                      refine g_aload_n (n := 150) hx 6 (dq tX5_reads 79 rfl) rfl rfl ?_
                      refine g_iload (n := 152) hx 1 (dq tX5_reads 80 rfl) rfl rfl ?_
                      refine g_if_ne (n := 155) (t := 160) hx (dq tX5_reads 81 rfl) (by decide) rfl ⟨by omega, by omega⟩ (fun c_55 => ?_) (fun c_55 => ?_)
                      · omega
                      · refine g_bipush (n := 157) hx (dq tX5_reads 82 rfl) rfl (by decide) ?_
                        refine g_goto (n := 172) hx (dq tX5_reads 83 rfl) (by decide) ?_
                        refine g_callVv (n := 175) (As := [vI 29]) (rest := []) hx (ctX4_write Γ M_49 g hg 29 (by decide) (by decide)) mlX5_60 (obX4 hg) (dq tX5_reads 89 rfl) rfl (Nat.le_of_ble_eq_true rfl) (Nat.le_of_ble_eq_true rfl) (Nat.le_of_ble_eq_true rfl) rfl (fun M_57 p_59 => ?_)
                        have f_60 := p_59
                        refine g_aload_n (n := 176) hx 6 (dq tX5_reads 90 rfl) rfl rfl ?_
                        refine g_iload (n := 178) hx 2 (dq tX5_reads 91 rfl) rfl rfl ?_
                        refine g_callVv (n := 181) (As := [vI z_35]) (rest := []) hx (ctX4_close Γ M_57 g hg z_35 (by omega) (by omega)) mlX5_64 (obX4 hg) (dq tX5_reads 92 rfl) rfl (Nat.le_of_ble_eq_true rfl) (Nat.le_of_ble_eq_true rfl) (Nat.le_of_ble_eq_true rfl) rfl (fun M_62 p_64 => ?_)
                        have f_65 := p_64
                        refine g_aload_n (n := 182) hx 5 (dq tX5_reads 93 rfl) rfl rfl ?_
                        refine g_getR (n := 185) hx glX5_9 (sX5_0 (by decide)) (dq tX5_reads 94 rfl) rfl ?_
                        refine g_getI (n := 188) hx glX5_67 (sX7_4 (by decide)) (dq tX5_reads 95 rfl) rfl (fun h_66l h_66u => ?_)
                        refine g_iconst (n := 189) hx (dq tX5_reads 96 rfl) rfl ?_
                        refine g_icmp_ne (n := 192) (t := 194) hx (dq tX5_reads 97 rfl) (by decide) rfl (zrI h_66l h_66u (by decide) (by decide)) ⟨by decide, by decide⟩ (fun c_67 => ?_) (fun c_67 => ?_)
                        · refine g_aload_n (n := 195) hx 5 (dq tX5_reads 100 rfl) rfl rfl ?_
                          refine g_getR (n := 198) hx glX5_9 (sX5_0 (by decide)) (dq tX5_reads 101 rfl) rfl ?_
                          refine g_getI (n := 201) hx glX5_67 (sX7_4 (by decide)) (dq tX5_reads 102 rfl) rfl (fun h_68l h_68u => ?_)
                          refine g_bipush (n := 203) hx (dq tX5_reads 103 rfl) rfl (by decide) ?_
                          refine g_icmp_eq (n := 206) (t := 215) hx (dq tX5_reads 104 rfl) (by decide) rfl (zrI h_68l h_68u (by decide) (by decide)) ⟨by decide, by decide⟩ (fun c_69 => ?_) (fun c_69 => ?_)
                          · refine g_aload_n (n := 216) hx 5 (dq tX5_reads 110 rfl) rfl rfl ?_
                            refine g_getR (n := 219) hx glX5_9 (sX5_0 (by decide)) (dq tX5_reads 111 rfl) rfl ?_
                            refine g_callVv (n := 222) (As := []) (rest := []) hx (ctX7_pass Γ M_62 ) mlX5_39 (obX7 (by decide)) (dq tX5_reads 112 rfl) rfl (Nat.le_of_ble_eq_true rfl) (Nat.le_of_ble_eq_true rfl) (Nat.le_of_ble_eq_true rfl) rfl (fun M_71 p_73 => ?_)
                            have f_74 := p_73
                            refine g_iinc (n := 225) (lv' := [(2, vI (i_14 + 1)), (6, vI 1), (5, vI j_41), (4, vI z_35), (3, vI z_23), (0, aR Γ 18), (1, aR Γ g)]) hx 4 (dq tX5_reads 113 rfl) rfl (by decide) rfl rfl ?_
                            refine g_goto (n := 18) hx (dq tX5_reads 114 rfl) (by decide) ?_
                            refine g_lv [0, 5, 6] rfl ?_
                            exact ih_17 _ (by omega) (i_14 + 1) M_71 (by omega) (by omega) (fun u_ v_ huv_ => (((((((f_74 u_ v_ (by omega)).trans (f_65 u_ v_ (by omega))).trans (f_60 u_ v_ (by omega))).trans (f_52 u_ v_ (by omega))).trans (f_39 u_ v_ (by omega))).trans (f_34 u_ v_ (by omega))).trans (f_18 u_ v_ (by omega)))) rfl
                          · refine g_aload_n (n := 207) hx 5 (dq tX5_reads 105 rfl) rfl rfl ?_
                            refine g_getR (n := 210) hx glX5_9 (sX5_0 (by decide)) (dq tX5_reads 106 rfl) rfl ?_
                            refine g_iconst (n := 211) hx (dq tX5_reads 107 rfl) rfl ?_
                            refine g_callVi (n := 214) (As := [vI 0]) (rest := []) hx (ctX7_fails Γ M_62 0 (by decide) (by decide)) mlX5_35 (obX7 (by decide)) (dq tX5_reads 108 rfl) rfl (Nat.le_of_ble_eq_true rfl) (Nat.le_of_ble_eq_true rfl) (Nat.le_of_ble_eq_true rfl) rfl (fun z_75 M_76 h_77 p_78 => ?_)
                            obtain ⟨f_79, h_80, h_81⟩ := p_78
                            exact g_zret hx hr (dq tX5_reads 109 rfl) (by omega) ⟨(fun u_ v_ huv_ => ((((((((((f_79 u_ v_ (by omega)).trans (f_65 u_ v_ (by omega))).trans (f_60 u_ v_ (by omega))).trans (f_52 u_ v_ (by omega))).trans (f_39 u_ v_ (by omega))).trans (f_34 u_ v_ (by omega))).trans (f_18 u_ v_ (by omega))).trans (f_12 u_ v_ (by omega))).trans (m_7 u_ v_ (by omega))).trans (f_5 u_ v_ (by omega)))), (by omega)⟩
                        · refine g_iconst (n := 193) hx (dq tX5_reads 98 rfl) rfl ?_
                          exact g_zret hx hr (dq tX5_reads 99 rfl) (by omega) ⟨(fun u_ v_ huv_ => (((((((((f_65 u_ v_ (by omega)).trans (f_60 u_ v_ (by omega))).trans (f_52 u_ v_ (by omega))).trans (f_39 u_ v_ (by omega))).trans (f_34 u_ v_ (by omega))).trans (f_18 u_ v_ (by omega))).trans (f_12 u_ v_ (by omega))).trans (m_7 u_ v_ (by omega))).trans (f_5 u_ v_ (by omega)))), (by omega)⟩
                    · clear b_53
                      refine g_iconst (n := 148) hx (dq tX5_reads 77 rfl) rfl ?_
                      exact g_zret hx hr (dq tX5_reads 78 rfl) (by omega) ⟨(fun u_ v_ huv_ => (((((((f_52 u_ v_ (by omega)).trans (f_39 u_ v_ (by omega))).trans (f_34 u_ v_ (by omega))).trans (f_18 u_ v_ (by omega))).trans (f_12 u_ v_ (by omega))).trans (m_7 u_ v_ (by omega))).trans (f_5 u_ v_ (by omega)))), (by omega)⟩
                · omega
              · refine g_aload_n (n := 100) hx 4 (dq tX5_reads 53 rfl) rfl rfl ?_
                refine g_aload_n (n := 101) hx 5 (dq tX5_reads 54 rfl) rfl rfl ?_
                refine g_callVi (n := 104) (As := [aR Γ g]) (rest := []) hx (ctX5_readsSum Γ M_36 g hg) mlX5_46 (obX5 (by decide)) (dq tX5_reads 55 rfl) rfl (Nat.le_of_ble_eq_true rfl) (Nat.le_of_ble_eq_true rfl) (Nat.le_of_ble_eq_true rfl) rfl (fun z_82 M_83 h_84 p_85 => ?_)
                obtain ⟨f_86, b_87⟩ := p_85
                refine g_if_ne (n := 107) (t := 109) hx (dq tX5_reads 56 rfl) (by decide) rfl h_84 (fun c_88 => ?_) (fun c_88 => ?_)
                · have b_87 := b_87.resolve_left c_88
                  refine g_iload (n := 111) hx 0 (dq tX5_reads 59 rfl) rfl rfl ?_
                  refine g_if_eq (n := 114) (t := 126) hx (dq tX5_reads 60 rfl) (by decide) rfl ⟨by omega, by omega⟩ (fun c_89 => ?_) (fun c_89 => ?_)
                  · omega
                  · refine g_aload_n (n := 115) hx 4 (dq tX5_reads 61 rfl) rfl rfl ?_
                    refine g_getR (n := 118) hx glX5_9 (sX5_0 (by decide)) (dq tX5_reads 62 rfl) rfl ?_
                    refine g_ldcS (n := 120) (q := 27) hx rfl rfl rfl (dq tX5_reads 63 rfl) rfl ?_
                    refine g_callVi (n := 123) (As := [sR Γ 27]) (rest := []) hx (ctX7_takesWord Γ M_83 27 _ rfl (by decide)) mlX5_52 (obX7 (by decide)) (dq tX5_reads 64 rfl) rfl (Nat.le_of_ble_eq_true rfl) (Nat.le_of_ble_eq_true rfl) (Nat.le_of_ble_eq_true rfl) rfl (fun z_90 M_91 h_92 p_93 => ?_)
                    obtain ⟨f_94, b_95⟩ := p_93
                    have J_98 : ∀ (j_97 : Int),  (0 ≤ j_97) → (j_97 ≤ 1) → G Γ x 7 (QI Γ x (qctX5_reads M g)) M_91 131 [(5, vI j_41), (4, vI z_35), (3, vI z_23), (2, vI i_14), (0, aR Γ 18), (1, aR Γ g)] [vI j_97] := by
                      intro j_97 h_99 h_100
                      refine g_istore (n := 133) (lv' := [(6, vI j_97), (5, vI j_41), (4, vI z_35), (3, vI z_23), (2, vI i_14), (0, aR Γ 18), (1, aR Γ g)]) hx (dq tX5_reads 69 rfl) (by decide) rfl rfl ?_
                      refine g_iload (n := 135) hx 0 (dq tX5_reads 70 rfl) rfl rfl ?_
                      refine g_if_eq (n := 138) (t := 149) hx (dq tX5_reads 71 rfl) (by decide) rfl ⟨by omega, by omega⟩ (fun c_101 => ?_) (fun c_101 => ?_)
                      · refine g_aload_n (n := 150) hx 6 (dq tX5_reads 79 rfl) rfl rfl ?_
                        refine g_iload (n := 152) hx 1 (dq tX5_reads 80 rfl) rfl rfl ?_
                        refine g_if_ne (n := 155) (t := 160) hx (dq tX5_reads 81 rfl) (by decide) rfl ⟨by omega, by omega⟩ (fun c_102 => ?_) (fun c_102 => ?_)
                        · refine g_iload (n := 162) hx 0 (dq tX5_reads 84 rfl) rfl rfl ?_
                          refine g_if_eq (n := 165) (t := 170) hx (dq tX5_reads 85 rfl) (by decide) rfl ⟨by omega, by omega⟩ (fun c_103 => ?_) (fun c_103 => ?_)
                          · refine g_bipush (n := 172) hx (dq tX5_reads 88 rfl) rfl (by decide) ?_
                            refine g_callVv (n := 175) (As := [vI 30]) (rest := []) hx (ctX4_write Γ M_91 g hg 30 (by decide) (by decide)) mlX5_60 (obX4 hg) (dq tX5_reads 89 rfl) rfl (Nat.le_of_ble_eq_true rfl) (Nat.le_of_ble_eq_true rfl) (Nat.le_of_ble_eq_true rfl) rfl (fun M_105 p_107 => ?_)
                            have f_108 := p_107
                            refine g_aload_n (n := 176) hx 6 (dq tX5_reads 90 rfl) rfl rfl ?_
                            refine g_iload (n := 178) hx 2 (dq tX5_reads 91 rfl) rfl rfl ?_
                            refine g_callVv (n := 181) (As := [vI z_35]) (rest := []) hx (ctX4_close Γ M_105 g hg z_35 (by omega) (by omega)) mlX5_64 (obX4 hg) (dq tX5_reads 92 rfl) rfl (Nat.le_of_ble_eq_true rfl) (Nat.le_of_ble_eq_true rfl) (Nat.le_of_ble_eq_true rfl) rfl (fun M_110 p_112 => ?_)
                            have f_113 := p_112
                            refine g_aload_n (n := 182) hx 5 (dq tX5_reads 93 rfl) rfl rfl ?_
                            refine g_getR (n := 185) hx glX5_9 (sX5_0 (by decide)) (dq tX5_reads 94 rfl) rfl ?_
                            refine g_getI (n := 188) hx glX5_67 (sX7_4 (by decide)) (dq tX5_reads 95 rfl) rfl (fun h_114l h_114u => ?_)
                            refine g_iconst (n := 189) hx (dq tX5_reads 96 rfl) rfl ?_
                            refine g_icmp_ne (n := 192) (t := 194) hx (dq tX5_reads 97 rfl) (by decide) rfl (zrI h_114l h_114u (by decide) (by decide)) ⟨by decide, by decide⟩ (fun c_115 => ?_) (fun c_115 => ?_)
                            · refine g_aload_n (n := 195) hx 5 (dq tX5_reads 100 rfl) rfl rfl ?_
                              refine g_getR (n := 198) hx glX5_9 (sX5_0 (by decide)) (dq tX5_reads 101 rfl) rfl ?_
                              refine g_getI (n := 201) hx glX5_67 (sX7_4 (by decide)) (dq tX5_reads 102 rfl) rfl (fun h_116l h_116u => ?_)
                              refine g_bipush (n := 203) hx (dq tX5_reads 103 rfl) rfl (by decide) ?_
                              refine g_icmp_eq (n := 206) (t := 215) hx (dq tX5_reads 104 rfl) (by decide) rfl (zrI h_116l h_116u (by decide) (by decide)) ⟨by decide, by decide⟩ (fun c_117 => ?_) (fun c_117 => ?_)
                              · refine g_aload_n (n := 216) hx 5 (dq tX5_reads 110 rfl) rfl rfl ?_
                                refine g_getR (n := 219) hx glX5_9 (sX5_0 (by decide)) (dq tX5_reads 111 rfl) rfl ?_
                                refine g_callVv (n := 222) (As := []) (rest := []) hx (ctX7_pass Γ M_110 ) mlX5_39 (obX7 (by decide)) (dq tX5_reads 112 rfl) rfl (Nat.le_of_ble_eq_true rfl) (Nat.le_of_ble_eq_true rfl) (Nat.le_of_ble_eq_true rfl) rfl (fun M_119 p_121 => ?_)
                                have f_122 := p_121
                                refine g_iinc (n := 225) (lv' := [(2, vI (i_14 + 1)), (6, vI j_97), (5, vI j_41), (4, vI z_35), (3, vI z_23), (0, aR Γ 18), (1, aR Γ g)]) hx 4 (dq tX5_reads 113 rfl) rfl (by decide) rfl rfl ?_
                                refine g_goto (n := 18) hx (dq tX5_reads 114 rfl) (by decide) ?_
                                refine g_lv [0, 5, 6] rfl ?_
                                exact ih_17 _ (by omega) (i_14 + 1) M_119 (by omega) (by omega) (fun u_ v_ huv_ => ((((((((f_122 u_ v_ (by omega)).trans (f_113 u_ v_ (by omega))).trans (f_108 u_ v_ (by omega))).trans (f_94 u_ v_ (by omega))).trans (f_86 u_ v_ (by omega))).trans (f_39 u_ v_ (by omega))).trans (f_34 u_ v_ (by omega))).trans (f_18 u_ v_ (by omega)))) rfl
                              · refine g_aload_n (n := 207) hx 5 (dq tX5_reads 105 rfl) rfl rfl ?_
                                refine g_getR (n := 210) hx glX5_9 (sX5_0 (by decide)) (dq tX5_reads 106 rfl) rfl ?_
                                refine g_iconst (n := 211) hx (dq tX5_reads 107 rfl) rfl ?_
                                refine g_callVi (n := 214) (As := [vI 0]) (rest := []) hx (ctX7_fails Γ M_110 0 (by decide) (by decide)) mlX5_35 (obX7 (by decide)) (dq tX5_reads 108 rfl) rfl (Nat.le_of_ble_eq_true rfl) (Nat.le_of_ble_eq_true rfl) (Nat.le_of_ble_eq_true rfl) rfl (fun z_123 M_124 h_125 p_126 => ?_)
                                obtain ⟨f_127, h_128, h_129⟩ := p_126
                                exact g_zret hx hr (dq tX5_reads 109 rfl) (by omega) ⟨(fun u_ v_ huv_ => (((((((((((f_127 u_ v_ (by omega)).trans (f_113 u_ v_ (by omega))).trans (f_108 u_ v_ (by omega))).trans (f_94 u_ v_ (by omega))).trans (f_86 u_ v_ (by omega))).trans (f_39 u_ v_ (by omega))).trans (f_34 u_ v_ (by omega))).trans (f_18 u_ v_ (by omega))).trans (f_12 u_ v_ (by omega))).trans (m_7 u_ v_ (by omega))).trans (f_5 u_ v_ (by omega)))), (by omega)⟩
                            · refine g_iconst (n := 193) hx (dq tX5_reads 98 rfl) rfl ?_
                              exact g_zret hx hr (dq tX5_reads 99 rfl) (by omega) ⟨(fun u_ v_ huv_ => ((((((((((f_113 u_ v_ (by omega)).trans (f_108 u_ v_ (by omega))).trans (f_94 u_ v_ (by omega))).trans (f_86 u_ v_ (by omega))).trans (f_39 u_ v_ (by omega))).trans (f_34 u_ v_ (by omega))).trans (f_18 u_ v_ (by omega))).trans (f_12 u_ v_ (by omega))).trans (m_7 u_ v_ (by omega))).trans (f_5 u_ v_ (by omega)))), (by omega)⟩
                          · omega
                        · omega
                      · refine g_aload_n (n := 139) hx 5 (dq tX5_reads 72 rfl) rfl rfl ?_
                        refine g_aload_n (n := 140) hx 6 (dq tX5_reads 73 rfl) rfl rfl ?_
                        refine g_iconst (n := 141) hx (dq tX5_reads 74 rfl) rfl ?_
                        refine g_callVi (n := 144) (As := [aR Γ g, vI 0]) (rest := []) hx (cttest_0 Γ M_91 g hg 0 (by decide) (by decide)) mlX5_56 (obX5 (by decide)) (dq tX5_reads 75 rfl) rfl (Nat.le_of_ble_eq_true rfl) (Nat.le_of_ble_eq_true rfl) (Nat.le_of_ble_eq_true rfl) rfl (fun z_130 M_131 h_132 p_133 => ?_)
                        obtain ⟨f_134, b_135⟩ := p_133
                        refine g_if_ne (n := 147) (t := 149) hx (dq tX5_reads 76 rfl) (by decide) rfl h_132 (fun c_136 => ?_) (fun c_136 => ?_)
                        · have b_135 := b_135.resolve_left c_136
                          refine g_aload_n (n := 150) hx 6 (dq tX5_reads 79 rfl) rfl rfl ?_
                          refine g_iload (n := 152) hx 1 (dq tX5_reads 80 rfl) rfl rfl ?_
                          refine g_if_ne (n := 155) (t := 160) hx (dq tX5_reads 81 rfl) (by decide) rfl ⟨by omega, by omega⟩ (fun c_137 => ?_) (fun c_137 => ?_)
                          · refine g_iload (n := 162) hx 0 (dq tX5_reads 84 rfl) rfl rfl ?_
                            refine g_if_eq (n := 165) (t := 170) hx (dq tX5_reads 85 rfl) (by decide) rfl ⟨by omega, by omega⟩ (fun c_138 => ?_) (fun c_138 => ?_)
                            · omega
                            · refine g_bipush (n := 167) hx (dq tX5_reads 86 rfl) rfl (by decide) ?_
                              refine g_goto (n := 172) hx (dq tX5_reads 87 rfl) (by decide) ?_
                              refine g_callVv (n := 175) (As := [vI 31]) (rest := []) hx (ctX4_write Γ M_131 g hg 31 (by decide) (by decide)) mlX5_60 (obX4 hg) (dq tX5_reads 89 rfl) rfl (Nat.le_of_ble_eq_true rfl) (Nat.le_of_ble_eq_true rfl) (Nat.le_of_ble_eq_true rfl) rfl (fun M_140 p_142 => ?_)
                              have f_143 := p_142
                              refine g_aload_n (n := 176) hx 6 (dq tX5_reads 90 rfl) rfl rfl ?_
                              refine g_iload (n := 178) hx 2 (dq tX5_reads 91 rfl) rfl rfl ?_
                              refine g_callVv (n := 181) (As := [vI z_35]) (rest := []) hx (ctX4_close Γ M_140 g hg z_35 (by omega) (by omega)) mlX5_64 (obX4 hg) (dq tX5_reads 92 rfl) rfl (Nat.le_of_ble_eq_true rfl) (Nat.le_of_ble_eq_true rfl) (Nat.le_of_ble_eq_true rfl) rfl (fun M_145 p_147 => ?_)
                              have f_148 := p_147
                              refine g_aload_n (n := 182) hx 5 (dq tX5_reads 93 rfl) rfl rfl ?_
                              refine g_getR (n := 185) hx glX5_9 (sX5_0 (by decide)) (dq tX5_reads 94 rfl) rfl ?_
                              refine g_getI (n := 188) hx glX5_67 (sX7_4 (by decide)) (dq tX5_reads 95 rfl) rfl (fun h_149l h_149u => ?_)
                              refine g_iconst (n := 189) hx (dq tX5_reads 96 rfl) rfl ?_
                              refine g_icmp_ne (n := 192) (t := 194) hx (dq tX5_reads 97 rfl) (by decide) rfl (zrI h_149l h_149u (by decide) (by decide)) ⟨by decide, by decide⟩ (fun c_150 => ?_) (fun c_150 => ?_)
                              · refine g_aload_n (n := 195) hx 5 (dq tX5_reads 100 rfl) rfl rfl ?_
                                refine g_getR (n := 198) hx glX5_9 (sX5_0 (by decide)) (dq tX5_reads 101 rfl) rfl ?_
                                refine g_getI (n := 201) hx glX5_67 (sX7_4 (by decide)) (dq tX5_reads 102 rfl) rfl (fun h_151l h_151u => ?_)
                                refine g_bipush (n := 203) hx (dq tX5_reads 103 rfl) rfl (by decide) ?_
                                refine g_icmp_eq (n := 206) (t := 215) hx (dq tX5_reads 104 rfl) (by decide) rfl (zrI h_151l h_151u (by decide) (by decide)) ⟨by decide, by decide⟩ (fun c_152 => ?_) (fun c_152 => ?_)
                                · refine g_aload_n (n := 216) hx 5 (dq tX5_reads 110 rfl) rfl rfl ?_
                                  refine g_getR (n := 219) hx glX5_9 (sX5_0 (by decide)) (dq tX5_reads 111 rfl) rfl ?_
                                  refine g_callVv (n := 222) (As := []) (rest := []) hx (ctX7_pass Γ M_145 ) mlX5_39 (obX7 (by decide)) (dq tX5_reads 112 rfl) rfl (Nat.le_of_ble_eq_true rfl) (Nat.le_of_ble_eq_true rfl) (Nat.le_of_ble_eq_true rfl) rfl (fun M_154 p_156 => ?_)
                                  have f_157 := p_156
                                  refine g_iinc (n := 225) (lv' := [(2, vI (i_14 + 1)), (6, vI j_97), (5, vI j_41), (4, vI z_35), (3, vI z_23), (0, aR Γ 18), (1, aR Γ g)]) hx 4 (dq tX5_reads 113 rfl) rfl (by decide) rfl rfl ?_
                                  refine g_goto (n := 18) hx (dq tX5_reads 114 rfl) (by decide) ?_
                                  refine g_lv [0, 5, 6] rfl ?_
                                  exact ih_17 _ (by omega) (i_14 + 1) M_154 (by omega) (by omega) (fun u_ v_ huv_ => (((((((((f_157 u_ v_ (by omega)).trans (f_148 u_ v_ (by omega))).trans (f_143 u_ v_ (by omega))).trans (f_134 u_ v_ (by omega))).trans (f_94 u_ v_ (by omega))).trans (f_86 u_ v_ (by omega))).trans (f_39 u_ v_ (by omega))).trans (f_34 u_ v_ (by omega))).trans (f_18 u_ v_ (by omega)))) rfl
                                · refine g_aload_n (n := 207) hx 5 (dq tX5_reads 105 rfl) rfl rfl ?_
                                  refine g_getR (n := 210) hx glX5_9 (sX5_0 (by decide)) (dq tX5_reads 106 rfl) rfl ?_
                                  refine g_iconst (n := 211) hx (dq tX5_reads 107 rfl) rfl ?_
                                  refine g_callVi (n := 214) (As := [vI 0]) (rest := []) hx (ctX7_fails Γ M_145 0 (by decide) (by decide)) mlX5_35 (obX7 (by decide)) (dq tX5_reads 108 rfl) rfl (Nat.le_of_ble_eq_true rfl) (Nat.le_of_ble_eq_true rfl) (Nat.le_of_ble_eq_true rfl) rfl (fun z_158 M_159 h_160 p_161 => ?_)
                                  obtain ⟨f_162, h_163, h_164⟩ := p_161
                                  exact g_zret hx hr (dq tX5_reads 109 rfl) (by omega) ⟨(fun u_ v_ huv_ => ((((((((((((f_162 u_ v_ (by omega)).trans (f_148 u_ v_ (by omega))).trans (f_143 u_ v_ (by omega))).trans (f_134 u_ v_ (by omega))).trans (f_94 u_ v_ (by omega))).trans (f_86 u_ v_ (by omega))).trans (f_39 u_ v_ (by omega))).trans (f_34 u_ v_ (by omega))).trans (f_18 u_ v_ (by omega))).trans (f_12 u_ v_ (by omega))).trans (m_7 u_ v_ (by omega))).trans (f_5 u_ v_ (by omega)))), (by omega)⟩
                              · refine g_iconst (n := 193) hx (dq tX5_reads 98 rfl) rfl ?_
                                exact g_zret hx hr (dq tX5_reads 99 rfl) (by omega) ⟨(fun u_ v_ huv_ => (((((((((((f_148 u_ v_ (by omega)).trans (f_143 u_ v_ (by omega))).trans (f_134 u_ v_ (by omega))).trans (f_94 u_ v_ (by omega))).trans (f_86 u_ v_ (by omega))).trans (f_39 u_ v_ (by omega))).trans (f_34 u_ v_ (by omega))).trans (f_18 u_ v_ (by omega))).trans (f_12 u_ v_ (by omega))).trans (m_7 u_ v_ (by omega))).trans (f_5 u_ v_ (by omega)))), (by omega)⟩
                          · omega
                        · clear b_135
                          refine g_iconst (n := 148) hx (dq tX5_reads 77 rfl) rfl ?_
                          exact g_zret hx hr (dq tX5_reads 78 rfl) (by omega) ⟨(fun u_ v_ huv_ => (((((((((f_134 u_ v_ (by omega)).trans (f_94 u_ v_ (by omega))).trans (f_86 u_ v_ (by omega))).trans (f_39 u_ v_ (by omega))).trans (f_34 u_ v_ (by omega))).trans (f_18 u_ v_ (by omega))).trans (f_12 u_ v_ (by omega))).trans (m_7 u_ v_ (by omega))).trans (f_5 u_ v_ (by omega)))), (by omega)⟩
                    refine g_if_eq (n := 126) (t := 130) hx (dq tX5_reads 65 rfl) (by decide) rfl h_92 (fun c_96 => ?_) (fun c_96 => ?_)
                    · clear b_95
                      refine g_iconst (n := 131) hx (dq tX5_reads 68 rfl) rfl ?_
                      exact J_98 0 (by omega) (by omega)
                    · have b_95 := b_95.resolve_left c_96
                      refine g_iconst (n := 127) hx (dq tX5_reads 66 rfl) rfl ?_
                      refine g_goto (n := 131) hx (dq tX5_reads 67 rfl) (by decide) ?_
                      exact J_98 1 (by omega) (by omega)
                · clear b_87
                  refine g_iconst (n := 108) hx (dq tX5_reads 57 rfl) rfl ?_
                  exact g_zret hx hr (dq tX5_reads 58 rfl) (by omega) ⟨(fun u_ v_ huv_ => (((((((f_86 u_ v_ (by omega)).trans (f_39 u_ v_ (by omega))).trans (f_34 u_ v_ (by omega))).trans (f_18 u_ v_ (by omega))).trans (f_12 u_ v_ (by omega))).trans (m_7 u_ v_ (by omega))).trans (f_5 u_ v_ (by omega)))), (by omega)⟩
            refine g_icmp_eq (n := 82) (t := 87) hx (dq tX5_reads 43 rfl) (by decide) rfl h_25 ⟨by decide, by decide⟩ (fun c_40 => ?_) (fun c_40 => ?_)
            · refine g_iconst (n := 88) hx (dq tX5_reads 47 rfl) rfl ?_
              refine g_goto (n := 92) hx (dq tX5_reads 48 rfl) (by decide) ?_
              exact J_42 1 (by omega) (by omega)
            · refine g_iload_n (n := 83) hx 1 (dq tX5_reads 44 rfl) rfl rfl ?_
              refine g_iconst (n := 84) hx (dq tX5_reads 45 rfl) rfl ?_
              refine g_icmp_ne (n := 87) (t := 91) hx (dq tX5_reads 46 rfl) (by decide) rfl h_25 ⟨by decide, by decide⟩ (fun c_165 => ?_) (fun c_165 => ?_)
              · refine g_iconst (n := 92) hx (dq tX5_reads 49 rfl) rfl ?_
                exact J_42 0 (by omega) (by omega)
              · refine g_iconst (n := 88) hx (dq tX5_reads 47 rfl) rfl ?_
                refine g_goto (n := 92) hx (dq tX5_reads 48 rfl) (by decide) ?_
                exact J_42 1 (by omega) (by omega)
          · refine g_aload_n (n := 55) hx 2 (dq tX5_reads 29 rfl) rfl rfl ?_
            refine g_getR (n := 58) hx glX5_9 (sX5_0 (by decide)) (dq tX5_reads 30 rfl) rfl ?_
            refine g_iconst (n := 59) hx (dq tX5_reads 31 rfl) rfl ?_
            refine g_callVi (n := 62) (As := [vI 4]) (rest := []) hx (ctX7_fails Γ M_15 4 (by decide) (by decide)) mlX5_35 (obX7 (by decide)) (dq tX5_reads 32 rfl) rfl (Nat.le_of_ble_eq_true rfl) (Nat.le_of_ble_eq_true rfl) (Nat.le_of_ble_eq_true rfl) rfl (fun z_166 M_167 h_168 p_169 => ?_)
            obtain ⟨f_170, h_171, h_172⟩ := p_169
            exact g_zret hx hr (dq tX5_reads 33 rfl) (by omega) ⟨(fun u_ v_ huv_ => (((((f_170 u_ v_ (by omega)).trans (f_18 u_ v_ (by omega))).trans (f_12 u_ v_ (by omega))).trans (m_7 u_ v_ (by omega))).trans (f_5 u_ v_ (by omega)))), (by omega)⟩
        · refine g_aload_n (n := 40) hx 2 (dq tX5_reads 21 rfl) rfl rfl ?_
          refine g_getR (n := 43) hx glX5_9 (sX5_0 (by decide)) (dq tX5_reads 22 rfl) rfl ?_
          refine g_iconst (n := 44) hx (dq tX5_reads 23 rfl) rfl ?_
          refine g_callVi (n := 47) (As := [vI 0]) (rest := []) hx (ctX7_fails Γ M_15 0 (by decide) (by decide)) mlX5_35 (obX7 (by decide)) (dq tX5_reads 24 rfl) rfl (Nat.le_of_ble_eq_true rfl) (Nat.le_of_ble_eq_true rfl) (Nat.le_of_ble_eq_true rfl) rfl (fun z_173 M_174 h_175 p_176 => ?_)
          obtain ⟨f_177, h_178, h_179⟩ := p_176
          exact g_zret hx hr (dq tX5_reads 25 rfl) (by omega) ⟨(fun u_ v_ huv_ => (((((f_177 u_ v_ (by omega)).trans (f_18 u_ v_ (by omega))).trans (f_12 u_ v_ (by omega))).trans (m_7 u_ v_ (by omega))).trans (f_5 u_ v_ (by omega)))), (by omega)⟩
  exact L_16 _ 0 M_9 (by omega) (by omega) (fun _ _ _ => rfl) rfl

abbrev qctX9_rule (M : zM)  (z : Int) (M' : zM) : Prop := (∀ u_ v_, (u_ < 0 ∨ 0 + 56 ≤ u_) ∧ (u_ ≠ 45 + 11 ∨ v_ ≠ 1) ∧ (u_ ≠ 45 + 11 ∨ v_ ≠ 4) ∧ (u_ ≠ 45 + 11 ∨ v_ ≠ 6) ∧ (u_ ≠ 45 + 11 ∨ v_ ≠ 11) ∧ (u_ < 0 + 57 ∨ 0 + 101 ≤ u_) → M' u_ v_ = M u_ v_) ∧ Gd M' 37 (45 + 1)
set_option maxHeartbeats 4000000 in
set_option maxRecDepth 100000 in
theorem ctX9_rule (Γ : Gam) (M : zM)  (gd0 : Gd M 37 (45 + 1)) : CtI Γ yX9_rule cX9_rule 2 (some .int) 30 733 [aR Γ 0] M (qctX9_rule M) := by
  refine met_i (by decide) (Nat.le_of_ble_eq_true rfl) (fun x hx hr => ?_)
  show G Γ x 2 (QI Γ x (qctX9_rule M)) M 0 [(0, aR Γ 0)] []
  refine g_aload_n (n := 1) hx 0 (dq tX9_rule 0 rfl) rfl rfl ?_
  refine g_getI (n := 4) hx glX9_120 (sX9_4 (by decide)) (dq tX9_rule 1 rfl) rfl (fun h_1l h_1u => ?_)
  refine g_bipush (n := 6) hx (dq tX9_rule 2 rfl) rfl (by decide) ?_
  refine g_icmp_lt (n := 9) (t := 11) hx (dq tX9_rule 3 rfl) (by decide) rfl (zrI h_1l h_1u (by decide) (by decide)) ⟨by decide, by decide⟩ (fun c_2 => ?_) (fun c_2 => ?_)
  · refine g_aload_n (n := 12) hx 0 (dq tX9_rule 6 rfl) rfl rfl ?_
    refine g_getR (n := 15) hx glX9_28 (sX9_2 (by decide)) (dq tX9_rule 7 rfl) rfl ?_
    refine g_aload_n (n := 16) hx 0 (dq tX9_rule 8 rfl) rfl rfl ?_
    refine g_getR (n := 19) hx glX9_34 (sX9_3 (by decide)) (dq tX9_rule 9 rfl) rfl ?_
    refine g_aload_n (n := 20) hx 0 (dq tX9_rule 10 rfl) rfl rfl ?_
    refine g_getI (n := 23) hx glX9_120 (sX9_4 (by decide)) (dq tX9_rule 11 rfl) rfl (fun h_3l h_3u => ?_)
    refine g_aald (n := 24) (q := (M 0 4).toNat) hx (aX9_3 (b := 0) (by decide)) (by decide) (dq tX9_rule 12 rfl) rfl (by omega) (by omega) (by omega) rfl ?_
    refine g_named (c := zrf 1 ((M 0 4).toNat)) (fun o_4 eo_4 => ?_)
    have o_5 : isX4 o_4 := by rw [eo_4]; exact zrfX4 ((M 0 4).toNat) (by omega)
    refine g_callVi (n := 27) (As := [aR Γ o_4]) (rest := []) hx (ctX5_reads Γ M o_4 o_5) mlX9_123 (obX5 (by decide)) (dq tX9_rule 13 rfl) rfl (Nat.le_of_ble_eq_true rfl) (Nat.le_of_ble_eq_true rfl) (Nat.le_of_ble_eq_true rfl) rfl (fun z_6 M_7 h_8 p_9 => ?_)
    obtain ⟨f_10, b_11⟩ := p_9
    have g_12 : Gd M_7 37 (45 + 1) := Gd.frame gd0 (fun c j hcj => f_10 c j (by omega))
    refine g_istore_n (n := 28) (lv' := [(1, vI z_6), (0, aR Γ 0)]) hx (dq tX9_rule 14 rfl) (by decide) rfl rfl ?_
    refine g_aload_n (n := 29) hx 1 (dq tX9_rule 15 rfl) rfl rfl ?_
    refine g_getR (n := 32) hx glX9_10 (sX9_0 (by decide)) (dq tX9_rule 16 rfl) rfl ?_
    refine g_iconst (n := 33) hx (dq tX9_rule 17 rfl) rfl ?_
    have e_13 : M_7 37 1 = M 37 1 := (f_10 37 1 (by omega))
    have e_14 : M_7 37 3 = M 37 3 := (f_10 37 3 (by omega))
    refine g_putI (n := 36) hx plX9_78 (sX7_1 (by decide)) (dq tX9_rule 18 rfl) rfl (by omega) (by omega) (fun M_15 m_16e m_16 => ?_)
    have g_17 : Gd M_15 37 (45 + 1) := Gd.frame g_12 (fun c j hcj => m_16 c j (by omega))
    refine g_iload_n (n := 37) hx 0 (dq tX9_rule 19 rfl) rfl rfl ?_
    refine g_if_ne (n := 40) (t := 51) hx (dq tX9_rule 20 rfl) (by decide) rfl h_8 (fun c_18 => ?_) (fun c_18 => ?_)
    · have b_11 := b_11.resolve_left c_18
      refine g_aload_n (n := 52) hx 1 (dq tX9_rule 27 rfl) rfl rfl ?_
      refine g_dup (n := 53) hx (dq tX9_rule 28 rfl) rfl rfl ?_
      refine g_getI (n := 56) hx glX9_120 (sX9_4 (by decide)) (dq tX9_rule 29 rfl) rfl (fun h_19l h_19u => ?_)
      have e_20 : M_15 0 4 = M 0 4 := ((m_16 0 4 (by omega))).trans (f_10 0 4 (by omega))
      refine g_iconst (n := 57) hx (dq tX9_rule 30 rfl) rfl ?_
      refine g_iadd (n := 58) hx (dq tX9_rule 31 rfl) rfl ?_
      have e_21 : M_15 37 1 = M_7 37 1 := (m_16 37 1 (by omega))
      have e_22 : M_15 37 3 = M_7 37 3 := (m_16 37 3 (by omega))
      refine g_putI (n := 61) hx plX9_120 (sX9_4 (by decide)) (dq tX9_rule 32 rfl) rfl (by omega) (by omega) (fun M_23 m_24e m_24 => ?_)
      have g_25 : Gd M_23 37 (45 + 1) := Gd.frame g_17 (fun c j hcj => m_24 c j (by omega))
      refine g_aload_n (n := 62) hx 1 (dq tX9_rule 33 rfl) rfl rfl ?_
      refine g_getI (n := 65) hx glX9_120 (sX9_4 (by decide)) (dq tX9_rule 34 rfl) rfl (fun h_26l h_26u => ?_)
      refine g_iconst (n := 66) hx (dq tX9_rule 35 rfl) rfl ?_
      refine g_isub (n := 67) hx (dq tX9_rule 36 rfl) rfl ?_
      have e_27 : M_23 37 1 = M_15 37 1 := (m_24 37 1 (by omega))
      have e_28 : M_23 37 3 = M_15 37 3 := (m_24 37 3 (by omega))
      exact g_iret hx hr (dq tX9_rule 37 rfl) ⟨by omega, by omega⟩ ⟨(fun u_ v_ huv_ => (((m_24 u_ v_ (by omega)).trans (m_16 u_ v_ (by omega))).trans (f_10 u_ v_ (by omega)))), g_25⟩
    · clear b_11
      refine g_bipush (n := 42) hx (dq tX9_rule 21 rfl) rfl (by decide) ?_
      refine g_aload_n (n := 43) hx 1 (dq tX9_rule 22 rfl) rfl rfl ?_
      refine g_getR (n := 46) hx glX9_10 (sX9_0 (by decide)) (dq tX9_rule 23 rfl) rfl ?_
      refine g_getI (n := 49) hx glX9_90 (sX7_5 (by decide)) (dq tX9_rule 24 rfl) rfl (fun h_29l h_29u => ?_)
      refine g_isub (n := 50) hx (dq tX9_rule 25 rfl) rfl ?_
      have e_30 : M_15 37 1 = M_7 37 1 := (m_16 37 1 (by omega))
      have e_31 : M_15 37 3 = M_7 37 3 := (m_16 37 3 (by omega))
      exact g_iret hx hr (dq tX9_rule 26 rfl) ⟨by omega, by omega⟩ ⟨(fun u_ v_ huv_ => ((m_16 u_ v_ (by omega)).trans (f_10 u_ v_ (by omega)))), g_17⟩
  · refine g_iconst (n := 10) hx (dq tX9_rule 4 rfl) rfl ?_
    exact g_iret hx hr (dq tX9_rule 5 rfl) ⟨by decide, by decide⟩ ⟨(fun _ _ _ => rfl), gd0⟩
