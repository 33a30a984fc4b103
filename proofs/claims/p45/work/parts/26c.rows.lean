abbrev qctX9_swap (M : zM) (one : Int) (other : Int) (M' : zM) : Prop := (∀ u_ v_, u_ ≠ 3 → M' u_ v_ = M u_ v_) ∧ (M' 3 one.toNat = M 3 other.toNat) ∧ (M' 3 other.toNat = M 3 one.toNat) ∧ (∀ j : Nat, j ≠ one.toNat → j ≠ other.toNat → M' 3 j = M 3 j)
set_option maxHeartbeats 4000000 in
set_option maxRecDepth 100000 in
theorem ctX9_swap (Γ : Gam) (M : zM) (one : Int) (honel : 0 ≤ one) (honeu : one ≤ 5) (other : Int) (hotherl : 0 ≤ other) (hotheru : other ≤ 5)  : CtV Γ yX9_swap cX9_swap 4 none 0 0 [aR Γ 3, vI one, vI other] M (qctX9_swap M one other) := by
  refine met_v (by decide) (Nat.le_of_ble_eq_true rfl) (fun x hx hr => ?_)
  show G Γ x 4 (QV Γ x (qctX9_swap M one other)) M 0 [(0, aR Γ 3), (1, vI one), (2, vI other)] []
  refine g_aload_n (n := 1) hx 0 (dq tX9_swap 0 rfl) rfl rfl ?_
  refine g_iload_n (n := 2) hx 1 (dq tX9_swap 1 rfl) rfl rfl ?_
  refine g_iald (n := 3) (q := one.toNat) hx (aX9_8 (b := 0) (by decide)) (dq tX9_swap 2 rfl) rfl (by omega) (by omega) (by omega) rfl (fun h_1l h_1u => ?_)
  refine g_istore_n (n := 4) (lv' := [(3, vI (M 3 one.toNat)), (0, aR Γ 3), (1, vI one), (2, vI other)]) hx (dq tX9_swap 3 rfl) (by decide) rfl rfl ?_
  refine g_aload_n (n := 5) hx 1 (dq tX9_swap 4 rfl) rfl rfl ?_
  refine g_iload_n (n := 6) hx 2 (dq tX9_swap 5 rfl) rfl rfl ?_
  refine g_aload_n (n := 7) hx 1 (dq tX9_swap 6 rfl) rfl rfl ?_
  refine g_iload_n (n := 8) hx 3 (dq tX9_swap 7 rfl) rfl rfl ?_
  refine g_iald (n := 9) (q := other.toNat) hx (aX9_8 (b := 0) (by decide)) (dq tX9_swap 8 rfl) rfl (by omega) (by omega) (by omega) rfl (fun h_2l h_2u => ?_)
  refine g_iast (n := 10) (q := one.toNat) hx (aX9_8 (b := 0) (by decide)) (dq tX9_swap 9 rfl) rfl (by omega) (by omega) (by omega) rfl (by omega) (by omega) (fun M_3 m_4e m_4 => ?_)
  refine g_aload_n (n := 11) hx 1 (dq tX9_swap 10 rfl) rfl rfl ?_
  refine g_iload_n (n := 12) hx 3 (dq tX9_swap 11 rfl) rfl rfl ?_
  refine g_iload_n (n := 13) hx 0 (dq tX9_swap 12 rfl) rfl rfl ?_
  refine g_iast (n := 14) (q := other.toNat) hx (aX9_8 (b := 0) (by decide)) (dq tX9_swap 13 rfl) rfl (by omega) (by omega) (by omega) rfl (by omega) (by omega) (fun M_5 m_6e m_6 => ?_)
  exact g_vret hx hr (dq tX9_swap 14 rfl) ⟨(fun u_ v_ huv_ => ((m_6 u_ v_ (by omega)).trans (m_4 u_ v_ (by omega)))), (by
    by_cases e : one.toNat = other.toNat
    · rw [e]; exact m_6e.trans (by rw [e])
    · exact (m_6 3 one.toNat (Or.inr e)).trans m_4e), m_6e, (fun j h1 h2 => (m_6 3 j (Or.inr h2)).trans (m_4 3 j (Or.inr h1)))⟩

abbrev qctX9_nextRow (M : zM) (size : Int) (z : Int) (M' : zM) : Prop := (∀ u_ v_, u_ ≠ 3 → M' u_ v_ = M u_ v_) ∧ Rw M' size ∧ (z = 0 ∨ (z = 1))
set_option maxHeartbeats 4000000 in
set_option maxRecDepth 100000 in
theorem ctX9_nextRow (Γ : Gam) (M : zM) (size : Int) (hsizel : 0 ≤ size) (hsizeu : size ≤ 6) (rw : Rw M size) : CtI Γ yX9_nextRow cX9_nextRow 6 (some .boolean) 1 23 [aR Γ 3, vI size] M (qctX9_nextRow M size) := by
  refine met_i (by decide) (Nat.le_of_ble_eq_true rfl) (fun x hx hr => ?_)
  show G Γ x 6 (QI Γ x (qctX9_nextRow M size)) M 0 [(0, aR Γ 3), (1, vI size)] []
  refine g_iload_n (n := 1) hx 1 (dq tX9_nextRow 0 rfl) rfl rfl ?_
  refine g_iconst (n := 2) hx (dq tX9_nextRow 1 rfl) rfl ?_
  refine g_isub (n := 3) hx (dq tX9_nextRow 2 rfl) rfl ?_
  refine g_istore_n (n := 4) (lv' := [(2, vI (size - 2)), (0, aR Γ 3), (1, vI size)]) hx (dq tX9_nextRow 3 rfl) (by decide) rfl rfl ?_
  have L_2 : ∀ (n_ : Nat) (i_1 : Int), ((-2) ≤ i_1) → (i_1 ≤ 4) → (i_1 ≤ size - 2) → ((i_1 - (-2)).toNat = n_) → G Γ x 6 (QI Γ x (qctX9_nextRow M size)) M 4 [(2, vI i_1), (0, aR Γ 3), (1, vI size)] [] := by
    intro n_
    induction n_ using Nat.strongRecOn with
    | _ n_ ih_3 =>
      intro i_1 h_7 h_8 h_6 hm_5
      refine g_iload_n (n := 5) hx 0 (dq tX9_nextRow 4 rfl) rfl rfl ?_
      refine g_if_lt (n := 8) (t := 25) hx (dq tX9_nextRow 5 rfl) (by decide) rfl ⟨by omega, by omega⟩ (fun c_9 => ?_) (fun c_9 => ?_)
      · refine g_iload_n (n := 26) hx 0 (dq tX9_nextRow 17 rfl) rfl rfl ?_
        refine g_if_ge (n := 29) (t := 31) hx (dq tX9_nextRow 18 rfl) (by decide) rfl ⟨by omega, by omega⟩ (fun c_10 => ?_) (fun c_10 => ?_)
        · omega
        · refine g_iconst (n := 30) hx (dq tX9_nextRow 19 rfl) rfl ?_
          exact g_zret hx hr (dq tX9_nextRow 20 rfl) (by omega) ⟨(fun _ _ _ => rfl), rw, (by omega)⟩
      · refine g_aload_n (n := 9) hx 1 (dq tX9_nextRow 6 rfl) rfl rfl ?_
        refine g_iload_n (n := 10) hx 0 (dq tX9_nextRow 7 rfl) rfl rfl ?_
        refine g_iald (n := 11) (q := i_1.toNat) hx (aX9_8 (b := 0) (by decide)) (dq tX9_nextRow 8 rfl) rfl (by omega) (by omega) (by omega) rfl (fun h_11l h_11u => ?_)
        refine g_aload_n (n := 12) hx 1 (dq tX9_nextRow 9 rfl) rfl rfl ?_
        refine g_iload_n (n := 13) hx 0 (dq tX9_nextRow 10 rfl) rfl rfl ?_
        refine g_iconst (n := 14) hx (dq tX9_nextRow 11 rfl) rfl ?_
        refine g_iadd (n := 15) hx (dq tX9_nextRow 12 rfl) rfl ?_
        refine g_iald (n := 16) (q := (i_1 + 1).toNat) hx (aX9_8 (b := 0) (by decide)) (dq tX9_nextRow 13 rfl) rfl (by omega) (by omega) (by omega) rfl (fun h_12l h_12u => ?_)
        refine g_icmp_le (n := 19) (t := 25) hx (dq tX9_nextRow 14 rfl) (by decide) rfl (zrI h_11l h_11u (by decide) (by decide)) (zrI h_12l h_12u (by decide) (by decide)) (fun c_13 => ?_) (fun c_13 => ?_)
        · refine g_iload_n (n := 26) hx 0 (dq tX9_nextRow 17 rfl) rfl rfl ?_
          refine g_if_ge (n := 29) (t := 31) hx (dq tX9_nextRow 18 rfl) (by decide) rfl ⟨by omega, by omega⟩ (fun c_14 => ?_) (fun c_14 => ?_)
          · refine g_iload_n (n := 32) hx 2 (dq tX9_nextRow 21 rfl) rfl rfl ?_
            refine g_iconst (n := 33) hx (dq tX9_nextRow 22 rfl) rfl ?_
            refine g_isub (n := 34) hx (dq tX9_nextRow 23 rfl) rfl ?_
            refine g_istore_n (n := 35) (lv' := [(3, vI (size - 1)), (2, vI i_1), (0, aR Γ 3), (1, vI size)]) hx (dq tX9_nextRow 24 rfl) (by decide) rfl rfl ?_
            have L_16 : ∀ (n_ : Nat) (i_15 : Int), ((-1) ≤ i_15) → (i_15 ≤ 5) → (i_15 ≤ size - 1) → (i_1 + 1 ≤ i_15) → ((i_15 - (-1)).toNat = n_) → G Γ x 6 (QI Γ x (qctX9_nextRow M size)) M 35 [(3, vI i_15), (2, vI i_1), (0, aR Γ 3), (1, vI size)] [] := by
              intro n_
              induction n_ using Nat.strongRecOn with
              | _ n_ ih_17 =>
                intro i_15 h_22 h_23 h_20 h_21 hm_19
                refine g_iload_n (n := 36) hx 0 (dq tX9_nextRow 25 rfl) rfl rfl ?_
                refine g_iload_n (n := 37) hx 1 (dq tX9_nextRow 26 rfl) rfl rfl ?_
                refine g_iconst (n := 38) hx (dq tX9_nextRow 27 rfl) rfl ?_
                refine g_iadd (n := 39) hx (dq tX9_nextRow 28 rfl) rfl ?_
                refine g_icmp_le (n := 42) (t := 57) hx (dq tX9_nextRow 29 rfl) (by decide) rfl ⟨by omega, by omega⟩ ⟨by omega, by omega⟩ (fun c_24 => ?_) (fun c_24 => ?_)
                · refine g_aload_n (n := 58) hx 2 (dq tX9_nextRow 39 rfl) rfl rfl ?_
                  refine g_iload_n (n := 59) hx 1 (dq tX9_nextRow 40 rfl) rfl rfl ?_
                  refine g_iload_n (n := 60) hx 0 (dq tX9_nextRow 41 rfl) rfl rfl ?_
                  refine g_callSv (n := 63) (As := [aR Γ 3, vI i_1, vI i_15]) (rest := []) hx (ctX9_swap Γ M i_1 (by omega) (by omega) i_15 (by omega) (by omega)) mlX9_328 (dq tX9_nextRow 42 rfl) rfl (Nat.le_of_ble_eq_true rfl) (Nat.le_of_ble_eq_true rfl) (Nat.le_of_ble_eq_true rfl) rfl (fun M_26 p_28 => ?_)
                  obtain ⟨f_29, h_30, h_31, h_32⟩ := p_28
                  have g_33 : Rw M_26 size := Rw.swap (i := i_1.toNat) (k := i_15.toNat) rw (by omega) (by omega) (by omega) (by omega) h_30 h_31 h_32 (f_29 37 3 (by omega))
                  refine g_iload_n (n := 64) hx 1 (dq tX9_nextRow 43 rfl) rfl rfl ?_
                  refine g_iconst (n := 65) hx (dq tX9_nextRow 44 rfl) rfl ?_
                  refine g_iadd (n := 66) hx (dq tX9_nextRow 45 rfl) rfl ?_
                  refine g_istore (n := 68) (lv' := [(4, vI (i_1 + 1)), (3, vI i_15), (2, vI i_1), (0, aR Γ 3), (1, vI size)]) hx (dq tX9_nextRow 46 rfl) (by decide) rfl rfl ?_
                  refine g_iload_n (n := 69) hx 4 (dq tX9_nextRow 47 rfl) rfl rfl ?_
                  refine g_iconst (n := 70) hx (dq tX9_nextRow 48 rfl) rfl ?_
                  refine g_isub (n := 71) hx (dq tX9_nextRow 49 rfl) rfl ?_
                  refine g_istore (n := 73) (lv' := [(5, vI (size - 1)), (4, vI (i_1 + 1)), (3, vI i_15), (2, vI i_1), (0, aR Γ 3), (1, vI size)]) hx (dq tX9_nextRow 50 rfl) (by decide) rfl rfl ?_
                  have L_37 : ∀ (n_ : Nat) (i_34 : Int) (i_35 : Int) (M_36 : zM), ((-1) ≤ i_34) → (i_34 ≤ 5) → (1 ≤ i_35) → (i_35 ≤ 5) → (∀ u_ v_, u_ ≠ 3 → M_36 u_ v_ = M_26 u_ v_) → (Rw M_36 size) → (i_34 ≤ size - 1) → ((i_34 - (-1)).toNat = n_) → G Γ x 6 (QI Γ x (qctX9_nextRow M size)) M_36 73 [(5, vI i_34), (4, vI i_35), (3, vI i_15), (2, vI i_1), (0, aR Γ 3), (1, vI size)] [] := by
                    intro n_
                    induction n_ using Nat.strongRecOn with
                    | _ n_ ih_38 =>
                      intro i_34 i_35 M_36 h_43 h_44 h_45 h_46 f_39 g_40 h_42 hm_41
                      refine g_iload (n := 75) hx 1 (dq tX9_nextRow 51 rfl) rfl rfl ?_
                      refine g_iload (n := 77) hx 0 (dq tX9_nextRow 52 rfl) rfl rfl ?_
                      refine g_icmp_ge (n := 80) (t := 97) hx (dq tX9_nextRow 53 rfl) (by decide) rfl ⟨by omega, by omega⟩ ⟨by omega, by omega⟩ (fun c_47 => ?_) (fun c_47 => ?_)
                      · refine g_iconst (n := 98) hx (dq tX9_nextRow 61 rfl) rfl ?_
                        exact g_zret hx hr (dq tX9_nextRow 62 rfl) (by omega) ⟨(fun u_ v_ huv_ => ((f_39 u_ v_ (by omega)).trans (f_29 u_ v_ (by omega)))), g_40, (by omega)⟩
                      · refine g_aload_n (n := 81) hx 4 (dq tX9_nextRow 54 rfl) rfl rfl ?_
                        refine g_iload (n := 83) hx 1 (dq tX9_nextRow 55 rfl) rfl rfl ?_
                        refine g_iload (n := 85) hx 0 (dq tX9_nextRow 56 rfl) rfl rfl ?_
                        refine g_callSv (n := 88) (As := [aR Γ 3, vI i_35, vI i_34]) (rest := []) hx (ctX9_swap Γ M_36 i_35 (by omega) (by omega) i_34 (by omega) (by omega)) mlX9_328 (dq tX9_nextRow 57 rfl) rfl (Nat.le_of_ble_eq_true rfl) (Nat.le_of_ble_eq_true rfl) (Nat.le_of_ble_eq_true rfl) rfl (fun M_49 p_51 => ?_)
                        obtain ⟨f_52, h_53, h_54, h_55⟩ := p_51
                        have g_56 : Rw M_49 size := Rw.swap (i := i_35.toNat) (k := i_34.toNat) g_40 (by omega) (by omega) (by omega) (by omega) h_53 h_54 h_55 (f_52 37 3 (by omega))
                        refine g_iinc (n := 91) (lv' := [(4, vI (i_35 + 1)), (5, vI i_34), (3, vI i_15), (2, vI i_1), (0, aR Γ 3), (1, vI size)]) hx 1 (dq tX9_nextRow 58 rfl) rfl (by decide) rfl rfl ?_
                        refine g_iinc (n := 94) (lv' := [(5, vI (i_34 + (-1))), (4, vI (i_35 + 1)), (3, vI i_15), (2, vI i_1), (0, aR Γ 3), (1, vI size)]) hx 1 (dq tX9_nextRow 59 rfl) rfl (by decide) rfl rfl ?_
                        refine g_goto (n := 73) hx (dq tX9_nextRow 60 rfl) (by decide) ?_
                        exact ih_38 _ (by omega) (i_34 + (-1)) (i_35 + 1) M_49 (by omega) (by omega) (by omega) (by omega) (fun u_ v_ huv_ => ((f_52 u_ v_ (by omega)).trans (f_39 u_ v_ (by omega)))) g_56 (by first | assumption | omega) rfl
                  exact L_37 _ (size - 1) (i_1 + 1) M_26 (by omega) (by omega) (by omega) (by omega) (fun _ _ _ => rfl) g_33 (by first | assumption | omega) rfl
                · refine g_aload_n (n := 43) hx 2 (dq tX9_nextRow 30 rfl) rfl rfl ?_
                  refine g_iload_n (n := 44) hx 0 (dq tX9_nextRow 31 rfl) rfl rfl ?_
                  refine g_iald (n := 45) (q := i_15.toNat) hx (aX9_8 (b := 0) (by decide)) (dq tX9_nextRow 32 rfl) rfl (by omega) (by omega) (by omega) rfl (fun h_57l h_57u => ?_)
                  refine g_aload_n (n := 46) hx 2 (dq tX9_nextRow 33 rfl) rfl rfl ?_
                  refine g_iload_n (n := 47) hx 1 (dq tX9_nextRow 34 rfl) rfl rfl ?_
                  refine g_iald (n := 48) (q := i_1.toNat) hx (aX9_8 (b := 0) (by decide)) (dq tX9_nextRow 35 rfl) rfl (by omega) (by omega) (by omega) rfl (fun h_58l h_58u => ?_)
                  refine g_icmp_ge (n := 51) (t := 57) hx (dq tX9_nextRow 36 rfl) (by decide) rfl (zrI h_57l h_57u (by decide) (by decide)) (zrI h_58l h_58u (by decide) (by decide)) (fun c_59 => ?_) (fun c_59 => ?_)
                  · refine g_aload_n (n := 58) hx 2 (dq tX9_nextRow 39 rfl) rfl rfl ?_
                    refine g_iload_n (n := 59) hx 1 (dq tX9_nextRow 40 rfl) rfl rfl ?_
                    refine g_iload_n (n := 60) hx 0 (dq tX9_nextRow 41 rfl) rfl rfl ?_
                    refine g_callSv (n := 63) (As := [aR Γ 3, vI i_1, vI i_15]) (rest := []) hx (ctX9_swap Γ M i_1 (by omega) (by omega) i_15 (by omega) (by omega)) mlX9_328 (dq tX9_nextRow 42 rfl) rfl (Nat.le_of_ble_eq_true rfl) (Nat.le_of_ble_eq_true rfl) (Nat.le_of_ble_eq_true rfl) rfl (fun M_61 p_63 => ?_)
                    obtain ⟨f_64, h_65, h_66, h_67⟩ := p_63
                    have g_68 : Rw M_61 size := Rw.swap (i := i_1.toNat) (k := i_15.toNat) rw (by omega) (by omega) (by omega) (by omega) h_65 h_66 h_67 (f_64 37 3 (by omega))
                    refine g_iload_n (n := 64) hx 1 (dq tX9_nextRow 43 rfl) rfl rfl ?_
                    refine g_iconst (n := 65) hx (dq tX9_nextRow 44 rfl) rfl ?_
                    refine g_iadd (n := 66) hx (dq tX9_nextRow 45 rfl) rfl ?_
                    refine g_istore (n := 68) (lv' := [(4, vI (i_1 + 1)), (3, vI i_15), (2, vI i_1), (0, aR Γ 3), (1, vI size)]) hx (dq tX9_nextRow 46 rfl) (by decide) rfl rfl ?_
                    refine g_iload_n (n := 69) hx 4 (dq tX9_nextRow 47 rfl) rfl rfl ?_
                    refine g_iconst (n := 70) hx (dq tX9_nextRow 48 rfl) rfl ?_
                    refine g_isub (n := 71) hx (dq tX9_nextRow 49 rfl) rfl ?_
                    refine g_istore (n := 73) (lv' := [(5, vI (size - 1)), (4, vI (i_1 + 1)), (3, vI i_15), (2, vI i_1), (0, aR Γ 3), (1, vI size)]) hx (dq tX9_nextRow 50 rfl) (by decide) rfl rfl ?_
                    have L_72 : ∀ (n_ : Nat) (i_69 : Int) (i_70 : Int) (M_71 : zM), ((-1) ≤ i_69) → (i_69 ≤ 5) → (1 ≤ i_70) → (i_70 ≤ 5) → (∀ u_ v_, u_ ≠ 3 → M_71 u_ v_ = M_61 u_ v_) → (Rw M_71 size) → (i_69 ≤ size - 1) → ((i_69 - (-1)).toNat = n_) → G Γ x 6 (QI Γ x (qctX9_nextRow M size)) M_71 73 [(5, vI i_69), (4, vI i_70), (3, vI i_15), (2, vI i_1), (0, aR Γ 3), (1, vI size)] [] := by
                      intro n_
                      induction n_ using Nat.strongRecOn with
                      | _ n_ ih_73 =>
                        intro i_69 i_70 M_71 h_78 h_79 h_80 h_81 f_74 g_75 h_77 hm_76
                        refine g_iload (n := 75) hx 1 (dq tX9_nextRow 51 rfl) rfl rfl ?_
                        refine g_iload (n := 77) hx 0 (dq tX9_nextRow 52 rfl) rfl rfl ?_
                        refine g_icmp_ge (n := 80) (t := 97) hx (dq tX9_nextRow 53 rfl) (by decide) rfl ⟨by omega, by omega⟩ ⟨by omega, by omega⟩ (fun c_82 => ?_) (fun c_82 => ?_)
                        · refine g_iconst (n := 98) hx (dq tX9_nextRow 61 rfl) rfl ?_
                          exact g_zret hx hr (dq tX9_nextRow 62 rfl) (by omega) ⟨(fun u_ v_ huv_ => ((f_74 u_ v_ (by omega)).trans (f_64 u_ v_ (by omega)))), g_75, (by omega)⟩
                        · refine g_aload_n (n := 81) hx 4 (dq tX9_nextRow 54 rfl) rfl rfl ?_
                          refine g_iload (n := 83) hx 1 (dq tX9_nextRow 55 rfl) rfl rfl ?_
                          refine g_iload (n := 85) hx 0 (dq tX9_nextRow 56 rfl) rfl rfl ?_
                          refine g_callSv (n := 88) (As := [aR Γ 3, vI i_70, vI i_69]) (rest := []) hx (ctX9_swap Γ M_71 i_70 (by omega) (by omega) i_69 (by omega) (by omega)) mlX9_328 (dq tX9_nextRow 57 rfl) rfl (Nat.le_of_ble_eq_true rfl) (Nat.le_of_ble_eq_true rfl) (Nat.le_of_ble_eq_true rfl) rfl (fun M_84 p_86 => ?_)
                          obtain ⟨f_87, h_88, h_89, h_90⟩ := p_86
                          have g_91 : Rw M_84 size := Rw.swap (i := i_70.toNat) (k := i_69.toNat) g_75 (by omega) (by omega) (by omega) (by omega) h_88 h_89 h_90 (f_87 37 3 (by omega))
                          refine g_iinc (n := 91) (lv' := [(4, vI (i_70 + 1)), (5, vI i_69), (3, vI i_15), (2, vI i_1), (0, aR Γ 3), (1, vI size)]) hx 1 (dq tX9_nextRow 58 rfl) rfl (by decide) rfl rfl ?_
                          refine g_iinc (n := 94) (lv' := [(5, vI (i_69 + (-1))), (4, vI (i_70 + 1)), (3, vI i_15), (2, vI i_1), (0, aR Γ 3), (1, vI size)]) hx 1 (dq tX9_nextRow 59 rfl) rfl (by decide) rfl rfl ?_
                          refine g_goto (n := 73) hx (dq tX9_nextRow 60 rfl) (by decide) ?_
                          exact ih_73 _ (by omega) (i_69 + (-1)) (i_70 + 1) M_84 (by omega) (by omega) (by omega) (by omega) (fun u_ v_ huv_ => ((f_87 u_ v_ (by omega)).trans (f_74 u_ v_ (by omega)))) g_91 (by first | assumption | omega) rfl
                    exact L_72 _ (size - 1) (i_1 + 1) M_61 (by omega) (by omega) (by omega) (by omega) (fun _ _ _ => rfl) g_68 (by first | assumption | omega) rfl
                  · refine g_iinc (n := 54) (lv' := [(3, vI (i_15 + (-1))), (2, vI i_1), (0, aR Γ 3), (1, vI size)]) hx 0 (dq tX9_nextRow 37 rfl) rfl (by decide) rfl rfl ?_
                    refine g_goto (n := 35) hx (dq tX9_nextRow 38 rfl) (by decide) ?_
                    exact ih_17 _ (by omega) (i_15 + (-1)) (by omega) (by omega) (by first | assumption | omega) (by first | assumption | omega) rfl
            exact L_16 _ (size - 1) (by omega) (by omega) (by first | assumption | omega) (by first | assumption | omega) rfl
          · omega
        · refine g_iinc (n := 22) (lv' := [(2, vI (i_1 + (-1))), (0, aR Γ 3), (1, vI size)]) hx 0 (dq tX9_nextRow 15 rfl) rfl (by decide) rfl rfl ?_
          refine g_goto (n := 4) hx (dq tX9_nextRow 16 rfl) (by decide) ?_
          exact ih_3 _ (by omega) (i_1 + (-1)) (by omega) (by omega) (by first | assumption | omega) rfl
  exact L_2 _ (size - 2) (by omega) (by omega) (by first | assumption | omega) rfl

abbrev qctX9_takeRow (M : zM)  (z : Int) (M' : zM) : Prop := (∀ u_ v_, u_ ≠ 3 ∧ u_ ≠ 4 → M' u_ v_ = M u_ v_) ∧ 0 ≤ z ∧ z ≤ 12 ∧ (Rw M' z)
set_option maxHeartbeats 4000000 in
set_option maxRecDepth 100000 in
theorem ctX9_takeRow (Γ : Gam) (M : zM)   : CtI Γ yX9_takeRow cX9_takeRow 4 (some .int) 1 21 [aR Γ 0] M (qctX9_takeRow M) := by
  refine met_i (by decide) (Nat.le_of_ble_eq_true rfl) (fun x hx hr => ?_)
  show G Γ x 4 (QI Γ x (qctX9_takeRow M)) M 0 [(0, aR Γ 0)] []
  refine g_iconst (n := 1) hx (dq tX9_takeRow 0 rfl) rfl ?_
  refine g_istore_n (n := 2) (lv' := [(1, vI 0), (0, aR Γ 0)]) hx (dq tX9_takeRow 1 rfl) (by decide) rfl rfl ?_
  refine g_iconst (n := 3) hx (dq tX9_takeRow 2 rfl) rfl ?_
  refine g_istore_n (n := 4) (lv' := [(2, vI 0), (1, vI 0), (0, aR Γ 0)]) hx (dq tX9_takeRow 3 rfl) (by decide) rfl rfl ?_
  refine g_iconst (n := 5) hx (dq tX9_takeRow 4 rfl) rfl ?_
  refine g_istore_n (n := 6) (lv' := [(3, vI 0), (2, vI 0), (1, vI 0), (0, aR Γ 0)]) hx (dq tX9_takeRow 5 rfl) (by decide) rfl rfl ?_
  have L_5 : ∀ (n_ : Nat) (i_1 : Int) (i_2 : Int) (i_3 : Int) (M_4 : zM), (0 ≤ i_1) → (i_1 ≤ 12) → (0 ≤ i_2) → (i_2 ≤ 12) → (0 ≤ i_3) → (i_3 ≤ 12) → (∀ u_ v_, u_ ≠ 4 ∧ u_ ≠ 3 → M_4 u_ v_ = M u_ v_) → (Rw M_4 i_3) → (i_3 ≤ i_1) → (i_2 ≤ i_1) → ((12 - i_1).toNat = n_) → G Γ x 4 (QI Γ x (qctX9_takeRow M)) M_4 6 [(3, vI i_1), (2, vI i_2), (1, vI i_3), (0, aR Γ 0)] [] := by
    intro n_
    induction n_ using Nat.strongRecOn with
    | _ n_ ih_6 =>
      intro i_1 i_2 i_3 M_4 h_12 h_13 h_14 h_15 h_16 h_17 f_7 h_9 h_10 h_11 hm_8
      refine g_iload_n (n := 7) hx 0 (dq tX9_takeRow 6 rfl) rfl rfl ?_
      refine g_aload_n (n := 8) hx 3 (dq tX9_takeRow 7 rfl) rfl rfl ?_
      refine g_getR (n := 11) hx glX9_47 (sX9_5 (by decide)) (dq tX9_takeRow 8 rfl) rfl ?_
      refine g_getR (n := 14) hx glX9_51 (sX8_0 (by decide)) (dq tX9_takeRow 9 rfl) rfl ?_
      refine g_getI (n := 17) hx glX9_117 (sX2_3 (by decide)) (dq tX9_takeRow 10 rfl) rfl (fun h_18l h_18u => ?_)
      have e_19 : M_4 37 3 = M 37 3 := (f_7 37 3 (by omega))
      refine g_icmp_ge (n := 20) (t := 97) hx (dq tX9_takeRow 11 rfl) (by decide) rfl ⟨by omega, by omega⟩ (zrI h_18l h_18u (by decide) (by decide)) (fun c_20 => ?_) (fun c_20 => ?_)
      · refine g_iload_n (n := 98) hx 2 (dq tX9_takeRow 49 rfl) rfl rfl ?_
        exact g_iret hx hr (dq tX9_takeRow 50 rfl) ⟨by omega, by omega⟩ ⟨(fun u_ v_ huv_ => (f_7 u_ v_ (by omega))), (by omega), (by omega), (by assumption)⟩
      · refine g_aload_n (n := 21) hx 3 (dq tX9_takeRow 12 rfl) rfl rfl ?_
        refine g_getR (n := 24) hx glX9_47 (sX9_5 (by decide)) (dq tX9_takeRow 13 rfl) rfl ?_
        refine g_getR (n := 27) hx glX9_100 (sX8_1 (by decide)) (dq tX9_takeRow 14 rfl) rfl ?_
        refine g_iload_n (n := 28) hx 0 (dq tX9_takeRow 15 rfl) rfl rfl ?_
        refine g_callVi (n := 31) (As := [vI i_1]) (rest := []) hx (ctX6_isInWater Γ M_4 (45 + 1) (iX8_1 (by decide)) i_1 (by omega) (by omega)) mlX9_325 (obX6 (iX8_1 (by decide))) (dq tX9_takeRow 16 rfl) rfl (Nat.le_of_ble_eq_true rfl) (Nat.le_of_ble_eq_true rfl) (Nat.le_of_ble_eq_true rfl) rfl (fun z_21 M_22 h_23 p_24 => ?_)
        obtain ⟨rfl, b_26⟩ := p_24
        have J_32 : ∀ (j_29 : Int) (M_30 : zM),  (0 ≤ j_29) → (j_29 ≤ 13) → (∀ u_ v_, u_ ≠ 3 → M_30 u_ v_ = M_4 u_ v_) → (Rw M_30 j_29) → (j_29 ≤ i_1 + 1) → G Γ x 4 (QI Γ x (qctX9_takeRow M)) M_30 50 [(3, vI i_1), (2, vI i_2), (1, vI j_29), (0, aR Γ 0)] [] := by
          intro j_29 M_30 h_33 h_34 f_31 h_35 h_36
          refine g_aload_n (n := 51) hx 3 (dq tX9_takeRow 27 rfl) rfl rfl ?_
          refine g_getR (n := 54) hx glX9_47 (sX9_5 (by decide)) (dq tX9_takeRow 28 rfl) rfl ?_
          refine g_getR (n := 57) hx glX9_100 (sX8_1 (by decide)) (dq tX9_takeRow 29 rfl) rfl ?_
          refine g_aload_n (n := 58) hx 3 (dq tX9_takeRow 30 rfl) rfl rfl ?_
          refine g_getR (n := 61) hx glX9_47 (sX9_5 (by decide)) (dq tX9_takeRow 31 rfl) rfl ?_
          refine g_getR (n := 64) hx glX9_100 (sX8_1 (by decide)) (dq tX9_takeRow 32 rfl) rfl ?_
          refine g_getR (n := 67) hx glX9_263 (sX6_12 (iX8_1 (by decide))) (dq tX9_takeRow 33 rfl) rfl ?_
          refine g_iload_n (n := 68) hx 0 (dq tX9_takeRow 34 rfl) rfl rfl ?_
          refine g_iald (n := 69) (q := i_1.toNat) hx (aX6_12 (b := 45 + 1) (iX8_1 (by decide))) (dq tX9_takeRow 35 rfl) rfl (by omega) (by omega) (by omega) rfl (fun h_37l h_37u => ?_)
          have e_38 : M_30 37 3 = M_4 37 3 := (f_31 37 3 (by omega))
          refine g_callVi (n := 72) (As := [vI (M_30 (45 + 1 + 7) i_1.toNat)]) (rest := []) hx (ctX6_isInWater Γ M_30 (45 + 1) (iX8_1 (by decide)) (M_30 (45 + 1 + 7) i_1.toNat) (by omega) (by omega)) mlX9_325 (obX6 (iX8_1 (by decide))) (dq tX9_takeRow 36 rfl) rfl (Nat.le_of_ble_eq_true rfl) (Nat.le_of_ble_eq_true rfl) (Nat.le_of_ble_eq_true rfl) rfl (fun z_39 M_40 h_41 p_42 => ?_)
          obtain ⟨rfl, b_44⟩ := p_42
          have J_50 : ∀ (j_47 : Int) (M_48 : zM),  (0 ≤ j_47) → (j_47 ≤ 13) → (∀ u_ v_, u_ ≠ 4 → M_48 u_ v_ = M_30 u_ v_) → (Rw M_48 j_29) → (j_29 ≤ i_1 + 1) → (j_47 ≤ i_1 + 1) → G Γ x 4 (QI Γ x (qctX9_takeRow M)) M_48 91 [(3, vI i_1), (2, vI j_47), (1, vI j_29), (0, aR Γ 0)] [] := by
            intro j_47 M_48 h_51 h_52 f_49 h_53 h_54 h_55
            refine g_iinc (n := 94) (lv' := [(3, vI (i_1 + 1)), (2, vI j_47), (1, vI j_29), (0, aR Γ 0)]) hx 0 (dq tX9_takeRow 47 rfl) rfl (by decide) rfl rfl ?_
            refine g_goto (n := 6) hx (dq tX9_takeRow 48 rfl) (by decide) ?_
            exact ih_6 _ (by omega) (i_1 + 1) j_47 j_29 M_48 (by omega) (by omega) (by omega) (by omega) (by omega) (by omega) (fun u_ v_ huv_ => (((f_49 u_ v_ (by omega)).trans (f_31 u_ v_ (by omega))).trans (f_7 u_ v_ (by omega)))) (by first | assumption | omega) (by first | assumption | omega) (by first | assumption | omega) rfl
          refine g_if_eq (n := 75) (t := 91) hx (dq tX9_takeRow 37 rfl) (by decide) rfl h_41 (fun c_46 => ?_) (fun c_46 => ?_)
          · clear b_44
            exact J_50 i_2 M_30 (by omega) (by omega) (fun _ _ _ => rfl) (by first | assumption | omega) (by first | assumption | omega) (by first | assumption | omega)
          · have b_44 := b_44.resolve_left c_46
            obtain ⟨-, h_45⟩ := b_44
            refine g_iload_n (n := 76) hx 1 (dq tX9_takeRow 38 rfl) rfl rfl ?_
            refine g_bipush (n := 78) hx (dq tX9_takeRow 39 rfl) rfl (by decide) ?_
            refine g_icmp_ge (n := 81) (t := 88) hx (dq tX9_takeRow 40 rfl) (by decide) rfl ⟨by omega, by omega⟩ ⟨by decide, by decide⟩ (fun c_56 => ?_) (fun c_56 => ?_)
            · refine g_iinc (n := 91) (lv' := [(2, vI (i_2 + 1)), (3, vI i_1), (1, vI j_29), (0, aR Γ 0)]) hx 1 (dq tX9_takeRow 46 rfl) rfl (by decide) rfl rfl ?_
              refine g_lv [1, 0, 2, 3] rfl ?_
              exact J_50 (i_2 + 1) M_30 (by omega) (by omega) (fun _ _ _ => rfl) (by first | assumption | omega) (by first | assumption | omega) (by first | assumption | omega)
            · refine g_aload_n (n := 82) hx 3 (dq tX9_takeRow 41 rfl) rfl rfl ?_
              refine g_getR (n := 85) hx glX9_69 (sX9_9 (by decide)) (dq tX9_takeRow 42 rfl) rfl ?_
              refine g_iload_n (n := 86) hx 1 (dq tX9_takeRow 43 rfl) rfl rfl ?_
              refine g_iload_n (n := 87) hx 0 (dq tX9_takeRow 44 rfl) rfl rfl ?_
              refine g_iast (n := 88) (q := i_2.toNat) hx (aX9_9 (b := 0) (by decide)) (dq tX9_takeRow 45 rfl) rfl (by omega) (by omega) (by omega) rfl (by omega) (by omega) (fun M_58 m_59e m_59 => ?_)
              have h_60 : Rw M_58 j_29 := Rw.frame (M := M_30) (by assumption) (fun u v hu => m_59 u v (by omega))
              refine g_iinc (n := 91) (lv' := [(2, vI (i_2 + 1)), (3, vI i_1), (1, vI j_29), (0, aR Γ 0)]) hx 1 (dq tX9_takeRow 46 rfl) rfl (by decide) rfl rfl ?_
              refine g_lv [1, 0, 2, 3] rfl ?_
              exact J_50 (i_2 + 1) M_58 (by omega) (by omega) (fun u_ v_ huv_ => (m_59 u_ v_ (by omega))) (by first | assumption | omega) (by first | assumption | omega) (by first | assumption | omega)
        refine g_if_eq (n := 34) (t := 50) hx (dq tX9_takeRow 17 rfl) (by decide) rfl h_23 (fun c_28 => ?_) (fun c_28 => ?_)
        · clear b_26
          exact J_32 i_3 M_4 (by omega) (by omega) (fun _ _ _ => rfl) (by first | assumption | omega) (by first | assumption | omega)
        · have b_26 := b_26.resolve_left c_28
          obtain ⟨-, h_27⟩ := b_26
          refine g_iload_n (n := 35) hx 2 (dq tX9_takeRow 18 rfl) rfl rfl ?_
          refine g_bipush (n := 37) hx (dq tX9_takeRow 19 rfl) rfl (by decide) ?_
          refine g_icmp_ge (n := 40) (t := 47) hx (dq tX9_takeRow 20 rfl) (by decide) rfl ⟨by omega, by omega⟩ ⟨by decide, by decide⟩ (fun c_61 => ?_) (fun c_61 => ?_)
          · have h_62 : Rw M_4 (i_3 + 1) := Rw.more (n := i_3) (by assumption) (by omega)
            refine g_iinc (n := 50) (lv' := [(1, vI (i_3 + 1)), (3, vI i_1), (2, vI i_2), (0, aR Γ 0)]) hx 2 (dq tX9_takeRow 26 rfl) rfl (by decide) rfl rfl ?_
            refine g_lv [1, 2, 0, 3] rfl ?_
            exact J_32 (i_3 + 1) M_4 (by omega) (by omega) (fun _ _ _ => rfl) (by first | assumption | omega) (by first | assumption | omega)
          · refine g_aload_n (n := 41) hx 3 (dq tX9_takeRow 21 rfl) rfl rfl ?_
            refine g_getR (n := 44) hx glX9_65 (sX9_8 (by decide)) (dq tX9_takeRow 22 rfl) rfl ?_
            refine g_iload_n (n := 45) hx 2 (dq tX9_takeRow 23 rfl) rfl rfl ?_
            refine g_iload_n (n := 46) hx 0 (dq tX9_takeRow 24 rfl) rfl rfl ?_
            refine g_iast (n := 47) (q := i_3.toNat) hx (aX9_8 (b := 0) (by decide)) (dq tX9_takeRow 25 rfl) rfl (by omega) (by omega) (by omega) rfl (by omega) (by omega) (fun M_63 m_64e m_64 => ?_)
            have h_65 : Rw M_63 (i_3 + 1) := Rw.put1 (M := M_4) (n := i_3) (by assumption) m_64e m_64 (by omega) (by omega)
            refine g_iinc (n := 50) (lv' := [(1, vI (i_3 + 1)), (3, vI i_1), (2, vI i_2), (0, aR Γ 0)]) hx 2 (dq tX9_takeRow 26 rfl) rfl (by decide) rfl rfl ?_
            refine g_lv [1, 2, 0, 3] rfl ?_
            exact J_32 (i_3 + 1) M_63 (by omega) (by omega) (fun u_ v_ huv_ => (m_64 u_ v_ (by omega))) (by first | assumption | omega) (by first | assumption | omega)
  exact L_5 _ 0 0 0 M (by omega) (by omega) (by omega) (by omega) (by omega) (by omega) (fun _ _ _ => rfl) (fun j hj _ => absurd hj (by omega)) (by omega) (by omega) rfl

abbrev qctX9_letAhead (M : zM) (n : Int) (what : Int) (z : Int) (M' : zM) : Prop := (∀ u_ v_, (u_ < 0 + 3 ∨ 0 + 7 ≤ u_) ∧ (u_ ≠ 45 ∨ v_ ≠ 8) ∧ (u_ < 45 + 3 ∨ 45 + 11 ≤ u_) ∧ (u_ ≠ 45 + 11 ∨ v_ ≠ 1) ∧ (u_ ≠ 45 + 11 ∨ v_ ≠ 4) ∧ (u_ ≠ 45 + 11 ∨ v_ ≠ 11) ∧ (u_ < 45 + 12 ∨ 45 + 28 ≤ u_) ∧ (u_ < 73 ∨ 73 + 28 ≤ u_) → M' u_ v_ = M u_ v_) ∧ Gd M' 37 (45 + 1)
set_option maxHeartbeats 4000000 in
set_option maxRecDepth 100000 in
theorem ctX9_letAhead (Γ : Gam) (M : zM) (n : Int) (hnl : (-2147483648) ≤ n) (hnu : n ≤ 2147483647) (what : Int) (hwhatl : (-2147483648) ≤ what) (hwhatu : what ≤ 2147483647) (gd0 : Gd M 37 (45 + 1)) : CtI Γ yX9_letAhead cX9_letAhead 8 (some .int) 6 151 [aR Γ 0, vI n, vI what] M (qctX9_letAhead M n what) := by
  refine met_i (by decide) (Nat.le_of_ble_eq_true rfl) (fun x hx hr => ?_)
  show G Γ x 8 (QI Γ x (qctX9_letAhead M n what)) M 0 [(0, aR Γ 0), (1, vI n), (2, vI what)] []
  refine g_aload_n (n := 1) hx 0 (dq tX9_letAhead 0 rfl) rfl rfl ?_
  refine g_callVi (n := 4) (As := []) (rest := []) hx (ctX9_hasRiver Γ M ) mlX9_126 (obX9 (by decide)) (dq tX9_letAhead 1 rfl) rfl (Nat.le_of_ble_eq_true rfl) (Nat.le_of_ble_eq_true rfl) (Nat.le_of_ble_eq_true rfl) rfl (fun z_1 M_2 h_3 p_4 => ?_)
  obtain ⟨rfl, b_6⟩ := p_4
  refine g_if_eq (n := 7) (t := 27) hx (dq tX9_letAhead 2 rfl) (by decide) rfl h_3 (fun c_8 => ?_) (fun c_8 => ?_)
  · clear b_6
    refine g_iconst (n := 28) hx (dq tX9_letAhead 13 rfl) rfl ?_
    exact g_iret hx hr (dq tX9_letAhead 14 rfl) ⟨by decide, by decide⟩ ⟨(fun _ _ _ => rfl), gd0⟩
  · have b_6 := b_6.resolve_left c_8
    obtain ⟨-, h_7⟩ := b_6
    refine g_iload_n (n := 8) hx 1 (dq tX9_letAhead 3 rfl) rfl rfl ?_
    refine g_if_lt (n := 11) (t := 27) hx (dq tX9_letAhead 4 rfl) (by decide) rfl (zrI hnl hnu (by decide) (by decide)) (fun c_9 => ?_) (fun c_9 => ?_)
    · refine g_iconst (n := 28) hx (dq tX9_letAhead 13 rfl) rfl ?_
      exact g_iret hx hr (dq tX9_letAhead 14 rfl) ⟨by decide, by decide⟩ ⟨(fun _ _ _ => rfl), gd0⟩
    · refine g_iload_n (n := 12) hx 1 (dq tX9_letAhead 5 rfl) rfl rfl ?_
      refine g_bipush (n := 14) hx (dq tX9_letAhead 6 rfl) rfl (by decide) ?_
      refine g_icmp_gt (n := 17) (t := 27) hx (dq tX9_letAhead 7 rfl) (by decide) rfl (zrI hnl hnu (by decide) (by decide)) ⟨by decide, by decide⟩ (fun c_10 => ?_) (fun c_10 => ?_)
      · refine g_iconst (n := 28) hx (dq tX9_letAhead 13 rfl) rfl ?_
        exact g_iret hx hr (dq tX9_letAhead 14 rfl) ⟨by decide, by decide⟩ ⟨(fun _ _ _ => rfl), gd0⟩
      · refine g_iload_n (n := 18) hx 2 (dq tX9_letAhead 8 rfl) rfl rfl ?_
        refine g_if_lt (n := 21) (t := 27) hx (dq tX9_letAhead 9 rfl) (by decide) rfl (zrI hwhatl hwhatu (by decide) (by decide)) (fun c_11 => ?_) (fun c_11 => ?_)
        · refine g_iconst (n := 28) hx (dq tX9_letAhead 13 rfl) rfl ?_
          exact g_iret hx hr (dq tX9_letAhead 14 rfl) ⟨by decide, by decide⟩ ⟨(fun _ _ _ => rfl), gd0⟩
        · refine g_iload_n (n := 22) hx 2 (dq tX9_letAhead 10 rfl) rfl rfl ?_
          refine g_bipush (n := 24) hx (dq tX9_letAhead 11 rfl) rfl (by decide) ?_
          refine g_icmp_le (n := 27) (t := 29) hx (dq tX9_letAhead 12 rfl) (by decide) rfl (zrI hwhatl hwhatu (by decide) (by decide)) ⟨by decide, by decide⟩ (fun c_12 => ?_) (fun c_12 => ?_)
          · refine g_aload_n (n := 30) hx 0 (dq tX9_letAhead 15 rfl) rfl rfl ?_
            refine g_callVi (n := 33) (As := []) (rest := []) hx (ctX9_takeRow Γ M ) mlX9_310 (obX9 (by decide)) (dq tX9_letAhead 16 rfl) rfl (Nat.le_of_ble_eq_true rfl) (Nat.le_of_ble_eq_true rfl) (Nat.le_of_ble_eq_true rfl) rfl (fun z_13 M_14 h_15 p_16 => ?_)
            obtain ⟨f_17, h_18, h_19, h_20⟩ := p_16
            have g_21 : Gd M_14 37 (45 + 1) := Gd.frame gd0 (fun c j hcj => f_17 c j (by omega))
            refine g_istore_n (n := 34) (lv' := [(3, vI z_13), (0, aR Γ 0), (1, vI n), (2, vI what)]) hx (dq tX9_letAhead 17 rfl) (by decide) rfl rfl ?_
            refine g_iload_n (n := 35) hx 0 (dq tX9_letAhead 18 rfl) rfl rfl ?_
            refine g_bipush (n := 37) hx (dq tX9_letAhead 19 rfl) rfl (by decide) ?_
            refine g_icmp_le (n := 40) (t := 42) hx (dq tX9_letAhead 20 rfl) (by decide) rfl h_15 ⟨by decide, by decide⟩ (fun c_22 => ?_) (fun c_22 => ?_)
            · refine g_iload_n (n := 43) hx 3 (dq tX9_letAhead 23 rfl) rfl rfl ?_
              refine g_iload_n (n := 44) hx 0 (dq tX9_letAhead 24 rfl) rfl rfl ?_
              refine g_icmp_le (n := 47) (t := 50) hx (dq tX9_letAhead 25 rfl) (by decide) rfl (zrI hwhatl hwhatu (by decide) (by decide)) h_15 (fun c_23 => ?_) (fun c_23 => ?_)
              · refine g_ldcw (n := 53) (z := 2147483647) hx wd_979 (by decide) (dq tX9_letAhead 28 rfl) rfl ?_
                refine g_istore (n := 55) (lv' := [(4, vI 2147483647), (3, vI z_13), (0, aR Γ 0), (1, vI n), (2, vI what)]) hx (dq tX9_letAhead 29 rfl) (by decide) rfl rfl ?_
                refine g_iconst (n := 56) hx (dq tX9_letAhead 30 rfl) rfl ?_
                refine g_istore (n := 58) (lv' := [(5, vI 1), (4, vI 2147483647), (3, vI z_13), (0, aR Γ 0), (1, vI n), (2, vI what)]) hx (dq tX9_letAhead 31 rfl) (by decide) rfl rfl ?_
                refine g_iconst (n := 59) hx (dq tX9_letAhead 32 rfl) rfl ?_
                refine g_istore (n := 61) (lv' := [(6, vI 0), (5, vI 1), (4, vI 2147483647), (3, vI z_13), (0, aR Γ 0), (1, vI n), (2, vI what)]) hx (dq tX9_letAhead 33 rfl) (by decide) rfl rfl ?_
                have L_28 : ∀ (n_ : Nat) (i_24 : Int) (i_25 : Int) (i_26 : Int) (M_27 : zM), (0 ≤ i_24) → (i_24 ≤ 720) → (0 ≤ i_25) → (i_25 ≤ 1) → ((-2147483648) ≤ i_26) → (i_26 ≤ 2147483647) → (∀ u_ v_, u_ ≠ 3 ∧ (u_ < 73 + 1 ∨ 73 + 11 ≤ u_) ∧ u_ ≠ 5 ∧ (u_ ≠ 73 ∨ v_ ≠ 8) ∧ (u_ < 73 + 3 ∨ 73 + 11 ≤ u_) ∧ (u_ ≠ 73 + 11 ∨ v_ ≠ 1) ∧ (u_ < 73 + 12 ∨ 73 + 28 ≤ u_) → M_27 u_ v_ = M_14 u_ v_) → (Gd M_27 37 (45 + 1)) → (Rw M_27 z_13) → ((720 - i_24).toNat = n_) → G Γ x 8 (QI Γ x (qctX9_letAhead M n what)) M_27 61 [(6, vI i_24), (5, vI i_25), (4, vI i_26), (3, vI z_13), (0, aR Γ 0), (1, vI n), (2, vI what)] [] := by
                  intro n_
                  induction n_ using Nat.strongRecOn with
                  | _ n_ ih_29 =>
                    intro i_24 i_25 i_26 M_27 h_34 h_35 h_36 h_37 h_38 h_39 f_30 g_31 g_32 hm_33
                    refine g_iload (n := 63) hx 0 (dq tX9_letAhead 34 rfl) rfl rfl ?_
                    refine g_sipush (n := 66) hx (dq tX9_letAhead 35 rfl) rfl (by decide) ?_
                    refine g_icmp_ge (n := 69) (t := 221) hx (dq tX9_letAhead 36 rfl) (by decide) rfl ⟨by omega, by omega⟩ ⟨by decide, by decide⟩ (fun c_40 => ?_) (fun c_40 => ?_)
                    · refine g_iload_n (n := 222) hx 6 (dq tX9_letAhead 111 rfl) rfl rfl ?_
                      refine g_if_ne (n := 225) (t := 230) hx (dq tX9_letAhead 112 rfl) (by decide) rfl (zrI hwhatl hwhatu (by decide) (by decide)) (fun c_41 => ?_) (fun c_41 => ?_)
                      · refine g_aload_n (n := 231) hx 4 (dq tX9_letAhead 115 rfl) rfl rfl ?_
                        refine g_getR (n := 234) hx glX9_72 (sX9_10 (by decide)) (dq tX9_letAhead 116 rfl) rfl ?_
                        refine g_iload_n (n := 235) hx 6 (dq tX9_letAhead 117 rfl) rfl rfl ?_
                        refine g_iconst (n := 236) hx (dq tX9_letAhead 118 rfl) rfl ?_
                        refine g_isub (n := 237) hx (dq tX9_letAhead 119 rfl) rfl ?_
                        refine g_iald (n := 238) (q := (what - 1).toNat) hx (aX9_10 (b := 0) (by decide)) (dq tX9_letAhead 120 rfl) rfl (by omega) (by omega) (by omega) rfl (fun h_42l h_42u => ?_)
                        have e_43 : M_27 37 1 = M 37 1 := ((f_30 37 1 (by omega))).trans (f_17 37 1 (by omega))
                        have e_44 : M_27 37 3 = M 37 3 := ((f_30 37 3 (by omega))).trans (f_17 37 3 (by omega))
                        exact g_iret hx hr (dq tX9_letAhead 121 rfl) (zrI h_42l h_42u (by decide) (by decide)) ⟨(fun u_ v_ huv_ => ((f_30 u_ v_ (by omega)).trans (f_17 u_ v_ (by omega)))), g_31⟩
                      · refine g_iload (n := 227) hx 2 (dq tX9_letAhead 113 rfl) rfl rfl ?_
                        refine g_goto (n := 238) hx (dq tX9_letAhead 114 rfl) (by decide) ?_
                        have e_45 : M_27 37 1 = M 37 1 := ((f_30 37 1 (by omega))).trans (f_17 37 1 (by omega))
                        have e_46 : M_27 37 3 = M 37 3 := ((f_30 37 3 (by omega))).trans (f_17 37 3 (by omega))
                        exact g_iret hx hr (dq tX9_letAhead 121 rfl) ⟨by omega, by omega⟩ ⟨(fun u_ v_ huv_ => ((f_30 u_ v_ (by omega)).trans (f_17 u_ v_ (by omega)))), g_31⟩
                    · refine g_iload (n := 71) hx 1 (dq tX9_letAhead 37 rfl) rfl rfl ?_
                      refine g_if_eq (n := 74) (t := 221) hx (dq tX9_letAhead 38 rfl) (by decide) rfl ⟨by omega, by omega⟩ (fun c_47 => ?_) (fun c_47 => ?_)
                      · refine g_iload_n (n := 222) hx 6 (dq tX9_letAhead 111 rfl) rfl rfl ?_
                        refine g_if_ne (n := 225) (t := 230) hx (dq tX9_letAhead 112 rfl) (by decide) rfl (zrI hwhatl hwhatu (by decide) (by decide)) (fun c_48 => ?_) (fun c_48 => ?_)
                        · refine g_aload_n (n := 231) hx 4 (dq tX9_letAhead 115 rfl) rfl rfl ?_
                          refine g_getR (n := 234) hx glX9_72 (sX9_10 (by decide)) (dq tX9_letAhead 116 rfl) rfl ?_
                          refine g_iload_n (n := 235) hx 6 (dq tX9_letAhead 117 rfl) rfl rfl ?_
                          refine g_iconst (n := 236) hx (dq tX9_letAhead 118 rfl) rfl ?_
                          refine g_isub (n := 237) hx (dq tX9_letAhead 119 rfl) rfl ?_
                          refine g_iald (n := 238) (q := (what - 1).toNat) hx (aX9_10 (b := 0) (by decide)) (dq tX9_letAhead 120 rfl) rfl (by omega) (by omega) (by omega) rfl (fun h_49l h_49u => ?_)
                          have e_50 : M_27 37 1 = M 37 1 := ((f_30 37 1 (by omega))).trans (f_17 37 1 (by omega))
                          have e_51 : M_27 37 3 = M 37 3 := ((f_30 37 3 (by omega))).trans (f_17 37 3 (by omega))
                          exact g_iret hx hr (dq tX9_letAhead 121 rfl) (zrI h_49l h_49u (by decide) (by decide)) ⟨(fun u_ v_ huv_ => ((f_30 u_ v_ (by omega)).trans (f_17 u_ v_ (by omega)))), g_31⟩
                        · refine g_iload (n := 227) hx 2 (dq tX9_letAhead 113 rfl) rfl rfl ?_
                          refine g_goto (n := 238) hx (dq tX9_letAhead 114 rfl) (by decide) ?_
                          have e_52 : M_27 37 1 = M 37 1 := ((f_30 37 1 (by omega))).trans (f_17 37 1 (by omega))
                          have e_53 : M_27 37 3 = M 37 3 := ((f_30 37 3 (by omega))).trans (f_17 37 3 (by omega))
                          exact g_iret hx hr (dq tX9_letAhead 121 rfl) ⟨by omega, by omega⟩ ⟨(fun u_ v_ huv_ => ((f_30 u_ v_ (by omega)).trans (f_17 u_ v_ (by omega)))), g_31⟩
                      · refine g_iload (n := 76) hx 2 (dq tX9_letAhead 39 rfl) rfl rfl ?_
                        refine g_if_le (n := 79) (t := 221) hx (dq tX9_letAhead 40 rfl) (by decide) rfl ⟨by omega, by omega⟩ (fun c_54 => ?_) (fun c_54 => ?_)
                        · refine g_iload_n (n := 222) hx 6 (dq tX9_letAhead 111 rfl) rfl rfl ?_
                          refine g_if_ne (n := 225) (t := 230) hx (dq tX9_letAhead 112 rfl) (by decide) rfl (zrI hwhatl hwhatu (by decide) (by decide)) (fun c_55 => ?_) (fun c_55 => ?_)
                          · refine g_aload_n (n := 231) hx 4 (dq tX9_letAhead 115 rfl) rfl rfl ?_
                            refine g_getR (n := 234) hx glX9_72 (sX9_10 (by decide)) (dq tX9_letAhead 116 rfl) rfl ?_
                            refine g_iload_n (n := 235) hx 6 (dq tX9_letAhead 117 rfl) rfl rfl ?_
                            refine g_iconst (n := 236) hx (dq tX9_letAhead 118 rfl) rfl ?_
                            refine g_isub (n := 237) hx (dq tX9_letAhead 119 rfl) rfl ?_
                            refine g_iald (n := 238) (q := (what - 1).toNat) hx (aX9_10 (b := 0) (by decide)) (dq tX9_letAhead 120 rfl) rfl (by omega) (by omega) (by omega) rfl (fun h_56l h_56u => ?_)
                            have e_57 : M_27 37 1 = M 37 1 := ((f_30 37 1 (by omega))).trans (f_17 37 1 (by omega))
                            have e_58 : M_27 37 3 = M 37 3 := ((f_30 37 3 (by omega))).trans (f_17 37 3 (by omega))
                            exact g_iret hx hr (dq tX9_letAhead 121 rfl) (zrI h_56l h_56u (by decide) (by decide)) ⟨(fun u_ v_ huv_ => ((f_30 u_ v_ (by omega)).trans (f_17 u_ v_ (by omega)))), g_31⟩
                          · refine g_iload (n := 227) hx 2 (dq tX9_letAhead 113 rfl) rfl rfl ?_
                            refine g_goto (n := 238) hx (dq tX9_letAhead 114 rfl) (by decide) ?_
                            have e_59 : M_27 37 1 = M 37 1 := ((f_30 37 1 (by omega))).trans (f_17 37 1 (by omega))
                            have e_60 : M_27 37 3 = M 37 3 := ((f_30 37 3 (by omega))).trans (f_17 37 3 (by omega))
                            exact g_iret hx hr (dq tX9_letAhead 121 rfl) ⟨by omega, by omega⟩ ⟨(fun u_ v_ huv_ => ((f_30 u_ v_ (by omega)).trans (f_17 u_ v_ (by omega)))), g_31⟩
                        · refine g_aload_n (n := 80) hx 4 (dq tX9_letAhead 41 rfl) rfl rfl ?_
                          refine g_getR (n := 83) hx glX9_55 (sX9_6 (by decide)) (dq tX9_letAhead 42 rfl) rfl ?_
                          refine g_aload_n (n := 84) hx 4 (dq tX9_letAhead 43 rfl) rfl rfl ?_
                          refine g_getR (n := 87) hx glX9_47 (sX9_5 (by decide)) (dq tX9_letAhead 44 rfl) rfl ?_
                          have e_61 : M_27 37 1 = M 37 1 := ((f_30 37 1 (by omega))).trans (f_17 37 1 (by omega))
                          have e_62 : M_27 37 3 = M 37 3 := ((f_30 37 3 (by omega))).trans (f_17 37 3 (by omega))
                          refine g_callVv (n := 90) (As := [aR Γ 45]) (rest := []) hx (ctX8_begin Γ M_27 73 (by decide) 45 (by decide) (by omega) g_31) mlX9_283 (obX8 (by decide)) (dq tX9_letAhead 45 rfl) rfl (Nat.le_of_ble_eq_true rfl) (Nat.le_of_ble_eq_true rfl) (Nat.le_of_ble_eq_true rfl) rfl (fun M_64 p_66 => ?_)
                          obtain ⟨f_67, g_68, h_69⟩ := p_66
                          have g_71 : Rw M_64 z_13 := Rw.frame g_32 (fun u v hu => f_67 u v (by omega))
                          refine g_iconst (n := 91) hx (dq tX9_letAhead 46 rfl) rfl ?_
                          refine g_istore (n := 93) (lv' := [(7, vI 0), (6, vI i_24), (5, vI i_25), (4, vI i_26), (3, vI z_13), (0, aR Γ 0), (1, vI n), (2, vI what)]) hx (dq tX9_letAhead 47 rfl) (by decide) rfl rfl ?_
                          have L_74 : ∀ (n_ : Nat) (i_72 : Int) (M_73 : zM), (0 ≤ i_72) → (i_72 ≤ 6) → (∀ u_ v_, u_ ≠ 73 + 1 + 7 → M_73 u_ v_ = M_64 u_ v_) → (Gd M_73 37 (45 + 1)) → (Rw M_73 z_13) → (Gd M_73 37 (73 + 1)) → ((6 - i_72).toNat = n_) → G Γ x 8 (QI Γ x (qctX9_letAhead M n what)) M_73 93 [(7, vI i_72), (6, vI i_24), (5, vI i_25), (4, vI i_26), (3, vI z_13), (0, aR Γ 0), (1, vI n), (2, vI what)] [] := by
                            intro n_
                            induction n_ using Nat.strongRecOn with
                            | _ n_ ih_75 =>
                              intro i_72 M_73 h_81 h_82 f_76 g_77 g_78 g_79 hm_80
                              refine g_iload (n := 95) hx 0 (dq tX9_letAhead 48 rfl) rfl rfl ?_
                              refine g_iload_n (n := 96) hx 4 (dq tX9_letAhead 49 rfl) rfl rfl ?_
                              refine g_icmp_ge (n := 99) (t := 130) hx (dq tX9_letAhead 50 rfl) (by decide) rfl ⟨by omega, by omega⟩ h_15 (fun c_83 => ?_) (fun c_83 => ?_)
                              · refine g_iconst (n := 131) hx (dq tX9_letAhead 66 rfl) rfl ?_
                                refine g_istore (n := 133) (lv' := [(7, vI 0), (6, vI i_24), (5, vI i_25), (4, vI i_26), (3, vI z_13), (0, aR Γ 0), (1, vI n), (2, vI what)]) hx (dq tX9_letAhead 67 rfl) (by decide) rfl rfl ?_
                                have L_86 : ∀ (n_ : Nat) (i_84 : Int) (M_85 : zM), (0 ≤ i_84) → (i_84 ≤ 20) → (∀ u_ v_, (u_ ≠ 73 ∨ v_ ≠ 8) ∧ (u_ < 73 + 3 ∨ 73 + 11 ≤ u_) ∧ (u_ ≠ 73 + 11 ∨ v_ ≠ 1) ∧ (u_ < 73 + 12 ∨ 73 + 28 ≤ u_) ∧ (u_ ≠ 73 + 1 ∨ v_ ≠ 0) → M_85 u_ v_ = M_73 u_ v_) → (Gd M_85 37 (45 + 1)) → (Rw M_85 z_13) → (Gd M_85 37 (73 + 1)) → ((20 - i_84).toNat = n_) → G Γ x 8 (QI Γ x (qctX9_letAhead M n what)) M_85 133 [(7, vI i_84), (6, vI i_24), (5, vI i_25), (4, vI i_26), (3, vI z_13), (0, aR Γ 0), (1, vI n), (2, vI what)] [] := by
                                  intro n_
                                  induction n_ using Nat.strongRecOn with
                                  | _ n_ ih_87 =>
                                    intro i_84 M_85 h_93 h_94 f_88 g_89 g_90 g_91 hm_92
                                    refine g_iload (n := 135) hx 0 (dq tX9_letAhead 68 rfl) rfl rfl ?_
                                    refine g_iload_n (n := 136) hx 6 (dq tX9_letAhead 69 rfl) rfl rfl ?_
                                    refine g_icmp_ge (n := 139) (t := 166) hx (dq tX9_letAhead 70 rfl) (by decide) rfl ⟨by omega, by omega⟩ (zrI hnl hnu (by decide) (by decide)) (fun c_95 => ?_) (fun c_95 => ?_)
                                    · refine g_aload_n (n := 167) hx 5 (dq tX9_letAhead 83 rfl) rfl rfl ?_
                                      refine g_getR (n := 170) hx glX9_55 (sX9_6 (by decide)) (dq tX9_letAhead 84 rfl) rfl ?_
                                      refine g_getR (n := 173) hx glX9_307 (sX8_3 (by decide)) (dq tX9_letAhead 85 rfl) rfl ?_
                                      refine g_iconst (n := 174) hx (dq tX9_letAhead 86 rfl) rfl ?_
                                      refine g_iald (n := 175) (q := 0) hx (aX8_3 (b := 73) (by decide)) (dq tX9_letAhead 87 rfl) rfl (by decide) (by decide) (by decide) rfl (fun h_96l h_96u => ?_)
                                      refine g_iload (n := 177) hx 3 (dq tX9_letAhead 88 rfl) rfl rfl ?_
                                      refine g_icmp_ge (n := 180) (t := 205) hx (dq tX9_letAhead 89 rfl) (by decide) rfl (zrI h_96l h_96u (by decide) (by decide)) ⟨by omega, by omega⟩ (fun c_97 => ?_) (fun c_97 => ?_)
                                      · refine g_aload_n (n := 206) hx 5 (dq tX9_letAhead 104 rfl) rfl rfl ?_
                                        refine g_getR (n := 209) hx glX9_65 (sX9_8 (by decide)) (dq tX9_letAhead 105 rfl) rfl ?_
                                        refine g_iload_n (n := 210) hx 4 (dq tX9_letAhead 106 rfl) rfl rfl ?_
                                        have e_98 : M_85 37 1 = M_27 37 1 := (((f_88 37 1 (by omega))).trans (f_76 37 1 (by omega))).trans (f_67 37 1 (by omega))
                                        have e_99 : M_85 37 3 = M_27 37 3 := (((f_88 37 3 (by omega))).trans (f_76 37 3 (by omega))).trans (f_67 37 3 (by omega))
                                        refine g_callSi (n := 213) (As := [aR Γ 3, vI z_13]) (rest := []) hx (ctX9_nextRow Γ M_85 z_13 (by omega) (by omega) g_90) mlX9_321 (dq tX9_letAhead 107 rfl) rfl (Nat.le_of_ble_eq_true rfl) (Nat.le_of_ble_eq_true rfl) (Nat.le_of_ble_eq_true rfl) rfl (fun z_100 M_101 h_102 p_103 => ?_)
                                        obtain ⟨f_104, g_105, b_106⟩ := p_103
                                        have g_107 : Gd M_101 37 (45 + 1) := Gd.frame g_89 (fun c j hcj => f_104 c j (by omega))
                                        have g_109 : Gd M_101 37 (73 + 1) := Gd.frame g_91 (fun c j hcj => f_104 c j (by omega))
                                        refine g_istore (n := 215) (lv' := [(5, vI z_100), (7, vI i_84), (6, vI i_24), (4, vI i_26), (3, vI z_13), (0, aR Γ 0), (1, vI n), (2, vI what)]) hx (dq tX9_letAhead 108 rfl) (by decide) rfl rfl ?_
                                        refine g_iinc (n := 218) (lv' := [(6, vI (i_24 + 1)), (5, vI z_100), (7, vI i_84), (4, vI i_26), (3, vI z_13), (0, aR Γ 0), (1, vI n), (2, vI what)]) hx 2 (dq tX9_letAhead 109 rfl) rfl (by decide) rfl rfl ?_
                                        refine g_goto (n := 61) hx (dq tX9_letAhead 110 rfl) (by decide) ?_
                                        refine g_lv [0, 1, 3, 4, 5, 6, 7] rfl ?_
                                        exact ih_29 _ (by omega) (i_24 + 1) z_100 i_26 M_101 (by omega) (by omega) (by omega) (by omega) (by omega) (by omega) (fun u_ v_ huv_ => (((((f_104 u_ v_ (by omega)).trans (f_88 u_ v_ (by omega))).trans (f_76 u_ v_ (by omega))).trans (f_67 u_ v_ (by omega))).trans (f_30 u_ v_ (by omega)))) g_107 g_105 rfl
                                      · refine g_aload_n (n := 181) hx 5 (dq tX9_letAhead 90 rfl) rfl rfl ?_
                                        refine g_getR (n := 184) hx glX9_55 (sX9_6 (by decide)) (dq tX9_letAhead 91 rfl) rfl ?_
                                        refine g_getR (n := 187) hx glX9_307 (sX8_3 (by decide)) (dq tX9_letAhead 92 rfl) rfl ?_
                                        refine g_iconst (n := 188) hx (dq tX9_letAhead 93 rfl) rfl ?_
                                        refine g_iald (n := 189) (q := 0) hx (aX8_3 (b := 73) (by decide)) (dq tX9_letAhead 94 rfl) rfl (by decide) (by decide) (by decide) rfl (fun h_110l h_110u => ?_)
                                        refine g_istore (n := 191) (lv' := [(4, vI (M_85 (73 + 24) 0)), (7, vI i_84), (6, vI i_24), (5, vI i_25), (3, vI z_13), (0, aR Γ 0), (1, vI n), (2, vI what)]) hx (dq tX9_letAhead 95 rfl) (by decide) rfl rfl ?_
                                        refine g_aload_n (n := 192) hx 5 (dq tX9_letAhead 96 rfl) rfl rfl ?_
                                        refine g_getR (n := 195) hx glX9_65 (sX9_8 (by decide)) (dq tX9_letAhead 97 rfl) rfl ?_
                                        refine g_iconst (n := 196) hx (dq tX9_letAhead 98 rfl) rfl ?_
                                        refine g_aload_n (n := 197) hx 5 (dq tX9_letAhead 99 rfl) rfl rfl ?_
                                        refine g_getR (n := 200) hx glX9_72 (sX9_10 (by decide)) (dq tX9_letAhead 100 rfl) rfl ?_
                                        refine g_iconst (n := 201) hx (dq tX9_letAhead 101 rfl) rfl ?_
                                        refine g_iload_n (n := 202) hx 4 (dq tX9_letAhead 102 rfl) rfl rfl ?_
                                        refine g_iv (fun hI_113 => ?_)
                                        refine g_copy (n := 205) hx wd_579 wd_581 wd_580 wd_18 (akI (aX9_8 (b := 0) (by decide))) (akI (aX9_10 (b := 0) (by decide))) (dq tX9_letAhead 103 rfl) rfl (Nat.le_of_ble_eq_true rfl) (Nat.le_of_ble_eq_true rfl) (by omega) (by omega) (by omega) (by omega) (by omega) (by omega) (by omega) (by omega) (fun j => cpR hI_113 (aX9_8 (b := 0) (by decide)) (aX9_10 (b := 0) (by decide)) (by decide) (by decide) j _ _) (fun M_111 m_112e m_112 => ?_)
                                        have g_114 : Gd M_111 37 (45 + 1) := Gd.frame g_89 (fun c j hcj => m_112 c j (by omega))
                                        have g_115 : Rw M_111 z_13 := Rw.frame g_90 (fun u v hu => m_112 u v (by omega))
                                        have g_116 : Gd M_111 37 (73 + 1) := Gd.frame g_91 (fun c j hcj => m_112 c j (by omega))
                                        refine g_aload_n (n := 206) hx 5 (dq tX9_letAhead 104 rfl) rfl rfl ?_
                                        refine g_getR (n := 209) hx glX9_65 (sX9_8 (by decide)) (dq tX9_letAhead 105 rfl) rfl ?_
                                        refine g_iload_n (n := 210) hx 4 (dq tX9_letAhead 106 rfl) rfl rfl ?_
                                        have e_117 : M_111 37 1 = M_27 37 1 := ((((m_112 37 1 (by omega))).trans (f_88 37 1 (by omega))).trans (f_76 37 1 (by omega))).trans (f_67 37 1 (by omega))
                                        have e_118 : M_111 37 3 = M_27 37 3 := ((((m_112 37 3 (by omega))).trans (f_88 37 3 (by omega))).trans (f_76 37 3 (by omega))).trans (f_67 37 3 (by omega))
                                        refine g_callSi (n := 213) (As := [aR Γ 3, vI z_13]) (rest := []) hx (ctX9_nextRow Γ M_111 z_13 (by omega) (by omega) g_115) mlX9_321 (dq tX9_letAhead 107 rfl) rfl (Nat.le_of_ble_eq_true rfl) (Nat.le_of_ble_eq_true rfl) (Nat.le_of_ble_eq_true rfl) rfl (fun z_119 M_120 h_121 p_122 => ?_)
                                        obtain ⟨f_123, g_124, b_125⟩ := p_122
                                        have g_126 : Gd M_120 37 (45 + 1) := Gd.frame g_114 (fun c j hcj => f_123 c j (by omega))
                                        have g_128 : Gd M_120 37 (73 + 1) := Gd.frame g_116 (fun c j hcj => f_123 c j (by omega))
                                        refine g_istore (n := 215) (lv' := [(5, vI z_119), (4, vI (M_85 (73 + 24) 0)), (7, vI i_84), (6, vI i_24), (3, vI z_13), (0, aR Γ 0), (1, vI n), (2, vI what)]) hx (dq tX9_letAhead 108 rfl) (by decide) rfl rfl ?_
                                        refine g_iinc (n := 218) (lv' := [(6, vI (i_24 + 1)), (5, vI z_119), (4, vI (M_85 (73 + 24) 0)), (7, vI i_84), (3, vI z_13), (0, aR Γ 0), (1, vI n), (2, vI what)]) hx 3 (dq tX9_letAhead 109 rfl) rfl (by decide) rfl rfl ?_
                                        refine g_goto (n := 61) hx (dq tX9_letAhead 110 rfl) (by decide) ?_
                                        refine g_lv [0, 1, 2, 4, 5, 6, 7] rfl ?_
                                        exact ih_29 _ (by omega) (i_24 + 1) z_119 (M_85 (73 + 24) 0) M_120 (by omega) (by omega) (by omega) (by omega) (by omega) (by omega) (fun u_ v_ huv_ => ((((((f_123 u_ v_ (by omega)).trans (m_112 u_ v_ (by omega))).trans (f_88 u_ v_ (by omega))).trans (f_76 u_ v_ (by omega))).trans (f_67 u_ v_ (by omega))).trans (f_30 u_ v_ (by omega)))) g_126 g_124 rfl
                                    · refine g_aload_n (n := 140) hx 5 (dq tX9_letAhead 71 rfl) rfl rfl ?_
                                      refine g_getR (n := 143) hx glX9_55 (sX9_6 (by decide)) (dq tX9_letAhead 72 rfl) rfl ?_
                                      refine g_getR (n := 146) hx glX9_307 (sX8_3 (by decide)) (dq tX9_letAhead 73 rfl) rfl ?_
                                      refine g_iconst (n := 147) hx (dq tX9_letAhead 74 rfl) rfl ?_
                                      refine g_iald (n := 148) (q := 0) hx (aX8_3 (b := 73) (by decide)) (dq tX9_letAhead 75 rfl) rfl (by decide) (by decide) (by decide) rfl (fun h_129l h_129u => ?_)
                                      refine g_iload (n := 150) hx 3 (dq tX9_letAhead 76 rfl) rfl rfl ?_
                                      refine g_icmp_ge (n := 153) (t := 166) hx (dq tX9_letAhead 77 rfl) (by decide) rfl (zrI h_129l h_129u (by decide) (by decide)) ⟨by omega, by omega⟩ (fun c_130 => ?_) (fun c_130 => ?_)
                                      · refine g_aload_n (n := 167) hx 5 (dq tX9_letAhead 83 rfl) rfl rfl ?_
                                        refine g_getR (n := 170) hx glX9_55 (sX9_6 (by decide)) (dq tX9_letAhead 84 rfl) rfl ?_
                                        refine g_getR (n := 173) hx glX9_307 (sX8_3 (by decide)) (dq tX9_letAhead 85 rfl) rfl ?_
                                        refine g_iconst (n := 174) hx (dq tX9_letAhead 86 rfl) rfl ?_
                                        refine g_iald (n := 175) (q := 0) hx (aX8_3 (b := 73) (by decide)) (dq tX9_letAhead 87 rfl) rfl (by decide) (by decide) (by decide) rfl (fun h_131l h_131u => ?_)
                                        refine g_iload (n := 177) hx 3 (dq tX9_letAhead 88 rfl) rfl rfl ?_
                                        refine g_icmp_ge (n := 180) (t := 205) hx (dq tX9_letAhead 89 rfl) (by decide) rfl (zrI h_131l h_131u (by decide) (by decide)) ⟨by omega, by omega⟩ (fun c_132 => ?_) (fun c_132 => ?_)
                                        · refine g_aload_n (n := 206) hx 5 (dq tX9_letAhead 104 rfl) rfl rfl ?_
                                          refine g_getR (n := 209) hx glX9_65 (sX9_8 (by decide)) (dq tX9_letAhead 105 rfl) rfl ?_
                                          refine g_iload_n (n := 210) hx 4 (dq tX9_letAhead 106 rfl) rfl rfl ?_
                                          have e_133 : M_85 37 1 = M_27 37 1 := (((f_88 37 1 (by omega))).trans (f_76 37 1 (by omega))).trans (f_67 37 1 (by omega))
                                          have e_134 : M_85 37 3 = M_27 37 3 := (((f_88 37 3 (by omega))).trans (f_76 37 3 (by omega))).trans (f_67 37 3 (by omega))
                                          refine g_callSi (n := 213) (As := [aR Γ 3, vI z_13]) (rest := []) hx (ctX9_nextRow Γ M_85 z_13 (by omega) (by omega) g_90) mlX9_321 (dq tX9_letAhead 107 rfl) rfl (Nat.le_of_ble_eq_true rfl) (Nat.le_of_ble_eq_true rfl) (Nat.le_of_ble_eq_true rfl) rfl (fun z_135 M_136 h_137 p_138 => ?_)
                                          obtain ⟨f_139, g_140, b_141⟩ := p_138
                                          have g_142 : Gd M_136 37 (45 + 1) := Gd.frame g_89 (fun c j hcj => f_139 c j (by omega))
                                          have g_144 : Gd M_136 37 (73 + 1) := Gd.frame g_91 (fun c j hcj => f_139 c j (by omega))
                                          refine g_istore (n := 215) (lv' := [(5, vI z_135), (7, vI i_84), (6, vI i_24), (4, vI i_26), (3, vI z_13), (0, aR Γ 0), (1, vI n), (2, vI what)]) hx (dq tX9_letAhead 108 rfl) (by decide) rfl rfl ?_
                                          refine g_iinc (n := 218) (lv' := [(6, vI (i_24 + 1)), (5, vI z_135), (7, vI i_84), (4, vI i_26), (3, vI z_13), (0, aR Γ 0), (1, vI n), (2, vI what)]) hx 2 (dq tX9_letAhead 109 rfl) rfl (by decide) rfl rfl ?_
                                          refine g_goto (n := 61) hx (dq tX9_letAhead 110 rfl) (by decide) ?_
                                          refine g_lv [0, 1, 3, 4, 5, 6, 7] rfl ?_
                                          exact ih_29 _ (by omega) (i_24 + 1) z_135 i_26 M_136 (by omega) (by omega) (by omega) (by omega) (by omega) (by omega) (fun u_ v_ huv_ => (((((f_139 u_ v_ (by omega)).trans (f_88 u_ v_ (by omega))).trans (f_76 u_ v_ (by omega))).trans (f_67 u_ v_ (by omega))).trans (f_30 u_ v_ (by omega)))) g_142 g_140 rfl
                                        · refine g_aload_n (n := 181) hx 5 (dq tX9_letAhead 90 rfl) rfl rfl ?_
                                          refine g_getR (n := 184) hx glX9_55 (sX9_6 (by decide)) (dq tX9_letAhead 91 rfl) rfl ?_
                                          refine g_getR (n := 187) hx glX9_307 (sX8_3 (by decide)) (dq tX9_letAhead 92 rfl) rfl ?_
                                          refine g_iconst (n := 188) hx (dq tX9_letAhead 93 rfl) rfl ?_
                                          refine g_iald (n := 189) (q := 0) hx (aX8_3 (b := 73) (by decide)) (dq tX9_letAhead 94 rfl) rfl (by decide) (by decide) (by decide) rfl (fun h_145l h_145u => ?_)
                                          refine g_istore (n := 191) (lv' := [(4, vI (M_85 (73 + 24) 0)), (7, vI i_84), (6, vI i_24), (5, vI i_25), (3, vI z_13), (0, aR Γ 0), (1, vI n), (2, vI what)]) hx (dq tX9_letAhead 95 rfl) (by decide) rfl rfl ?_
                                          refine g_aload_n (n := 192) hx 5 (dq tX9_letAhead 96 rfl) rfl rfl ?_
                                          refine g_getR (n := 195) hx glX9_65 (sX9_8 (by decide)) (dq tX9_letAhead 97 rfl) rfl ?_
                                          refine g_iconst (n := 196) hx (dq tX9_letAhead 98 rfl) rfl ?_
                                          refine g_aload_n (n := 197) hx 5 (dq tX9_letAhead 99 rfl) rfl rfl ?_
                                          refine g_getR (n := 200) hx glX9_72 (sX9_10 (by decide)) (dq tX9_letAhead 100 rfl) rfl ?_
                                          refine g_iconst (n := 201) hx (dq tX9_letAhead 101 rfl) rfl ?_
                                          refine g_iload_n (n := 202) hx 4 (dq tX9_letAhead 102 rfl) rfl rfl ?_
                                          refine g_iv (fun hI_148 => ?_)
                                          refine g_copy (n := 205) hx wd_579 wd_581 wd_580 wd_18 (akI (aX9_8 (b := 0) (by decide))) (akI (aX9_10 (b := 0) (by decide))) (dq tX9_letAhead 103 rfl) rfl (Nat.le_of_ble_eq_true rfl) (Nat.le_of_ble_eq_true rfl) (by omega) (by omega) (by omega) (by omega) (by omega) (by omega) (by omega) (by omega) (fun j => cpR hI_148 (aX9_8 (b := 0) (by decide)) (aX9_10 (b := 0) (by decide)) (by decide) (by decide) j _ _) (fun M_146 m_147e m_147 => ?_)
                                          have g_149 : Gd M_146 37 (45 + 1) := Gd.frame g_89 (fun c j hcj => m_147 c j (by omega))
                                          have g_150 : Rw M_146 z_13 := Rw.frame g_90 (fun u v hu => m_147 u v (by omega))
                                          have g_151 : Gd M_146 37 (73 + 1) := Gd.frame g_91 (fun c j hcj => m_147 c j (by omega))
                                          refine g_aload_n (n := 206) hx 5 (dq tX9_letAhead 104 rfl) rfl rfl ?_
                                          refine g_getR (n := 209) hx glX9_65 (sX9_8 (by decide)) (dq tX9_letAhead 105 rfl) rfl ?_
                                          refine g_iload_n (n := 210) hx 4 (dq tX9_letAhead 106 rfl) rfl rfl ?_
                                          have e_152 : M_146 37 1 = M_27 37 1 := ((((m_147 37 1 (by omega))).trans (f_88 37 1 (by omega))).trans (f_76 37 1 (by omega))).trans (f_67 37 1 (by omega))
                                          have e_153 : M_146 37 3 = M_27 37 3 := ((((m_147 37 3 (by omega))).trans (f_88 37 3 (by omega))).trans (f_76 37 3 (by omega))).trans (f_67 37 3 (by omega))
                                          refine g_callSi (n := 213) (As := [aR Γ 3, vI z_13]) (rest := []) hx (ctX9_nextRow Γ M_146 z_13 (by omega) (by omega) g_150) mlX9_321 (dq tX9_letAhead 107 rfl) rfl (Nat.le_of_ble_eq_true rfl) (Nat.le_of_ble_eq_true rfl) (Nat.le_of_ble_eq_true rfl) rfl (fun z_154 M_155 h_156 p_157 => ?_)
                                          obtain ⟨f_158, g_159, b_160⟩ := p_157
                                          have g_161 : Gd M_155 37 (45 + 1) := Gd.frame g_149 (fun c j hcj => f_158 c j (by omega))
                                          have g_163 : Gd M_155 37 (73 + 1) := Gd.frame g_151 (fun c j hcj => f_158 c j (by omega))
                                          refine g_istore (n := 215) (lv' := [(5, vI z_154), (4, vI (M_85 (73 + 24) 0)), (7, vI i_84), (6, vI i_24), (3, vI z_13), (0, aR Γ 0), (1, vI n), (2, vI what)]) hx (dq tX9_letAhead 108 rfl) (by decide) rfl rfl ?_
                                          refine g_iinc (n := 218) (lv' := [(6, vI (i_24 + 1)), (5, vI z_154), (4, vI (M_85 (73 + 24) 0)), (7, vI i_84), (3, vI z_13), (0, aR Γ 0), (1, vI n), (2, vI what)]) hx 3 (dq tX9_letAhead 109 rfl) rfl (by decide) rfl rfl ?_
                                          refine g_goto (n := 61) hx (dq tX9_letAhead 110 rfl) (by decide) ?_
                                          refine g_lv [0, 1, 2, 4, 5, 6, 7] rfl ?_
                                          exact ih_29 _ (by omega) (i_24 + 1) z_154 (M_85 (73 + 24) 0) M_155 (by omega) (by omega) (by omega) (by omega) (by omega) (by omega) (fun u_ v_ huv_ => ((((((f_158 u_ v_ (by omega)).trans (m_147 u_ v_ (by omega))).trans (f_88 u_ v_ (by omega))).trans (f_76 u_ v_ (by omega))).trans (f_67 u_ v_ (by omega))).trans (f_30 u_ v_ (by omega)))) g_161 g_159 rfl
                                      · refine g_aload_n (n := 154) hx 5 (dq tX9_letAhead 78 rfl) rfl rfl ?_
                                        refine g_getR (n := 157) hx glX9_55 (sX9_6 (by decide)) (dq tX9_letAhead 79 rfl) rfl ?_
                                        have e_164 : M_85 37 1 = M_27 37 1 := (((f_88 37 1 (by omega))).trans (f_76 37 1 (by omega))).trans (f_67 37 1 (by omega))
                                        have e_165 : M_85 37 3 = M_27 37 3 := (((f_88 37 3 (by omega))).trans (f_76 37 3 (by omega))).trans (f_67 37 3 (by omega))
                                        refine g_callVv (n := 160) (As := []) (rest := []) hx (ctX8_passDay Γ M_85 73 (by decide) g_91) mlX9_300 (obX8 (by decide)) (dq tX9_letAhead 80 rfl) rfl (Nat.le_of_ble_eq_true rfl) (Nat.le_of_ble_eq_true rfl) (Nat.le_of_ble_eq_true rfl) rfl (fun M_167 p_169 => ?_)
                                        obtain ⟨f_170, g_171⟩ := p_169
                                        have g_172 : Gd M_167 37 (45 + 1) := Gd.frame g_89 (fun c j hcj => f_170 c j (by omega))
                                        have g_173 : Rw M_167 z_13 := Rw.frame g_90 (fun u v hu => f_170 u v (by omega))
                                        refine g_iinc (n := 163) (lv' := [(7, vI (i_84 + 1)), (6, vI i_24), (5, vI i_25), (4, vI i_26), (3, vI z_13), (0, aR Γ 0), (1, vI n), (2, vI what)]) hx 0 (dq tX9_letAhead 81 rfl) rfl (by decide) rfl rfl ?_
                                        refine g_goto (n := 133) hx (dq tX9_letAhead 82 rfl) (by decide) ?_
                                        exact ih_87 _ (by omega) (i_84 + 1) M_167 (by omega) (by omega) (fun u_ v_ huv_ => ((f_170 u_ v_ (by omega)).trans (f_88 u_ v_ (by omega)))) g_172 g_173 g_171 rfl
                                exact L_86 _ 0 M_73 (by omega) (by omega) (fun _ _ _ => rfl) g_77 g_78 g_79 rfl
                              · refine g_aload_n (n := 100) hx 5 (dq tX9_letAhead 51 rfl) rfl rfl ?_
                                refine g_getR (n := 103) hx glX9_55 (sX9_6 (by decide)) (dq tX9_letAhead 52 rfl) rfl ?_
                                refine g_getR (n := 106) hx glX9_100 (sX8_1 (by decide)) (dq tX9_letAhead 53 rfl) rfl ?_
                                refine g_getR (n := 109) hx glX9_263 (sX6_12 (iX8_1 (by decide))) (dq tX9_letAhead 54 rfl) rfl ?_
                                refine g_aload_n (n := 110) hx 5 (dq tX9_letAhead 55 rfl) rfl rfl ?_
                                refine g_getR (n := 113) hx glX9_69 (sX9_9 (by decide)) (dq tX9_letAhead 56 rfl) rfl ?_
                                refine g_iload (n := 115) hx 0 (dq tX9_letAhead 57 rfl) rfl rfl ?_
                                refine g_iald (n := 116) (q := i_72.toNat) hx (aX9_9 (b := 0) (by decide)) (dq tX9_letAhead 58 rfl) rfl (by omega) (by omega) (by omega) rfl (fun h_175l h_175u => ?_)
                                refine g_aload_n (n := 117) hx 5 (dq tX9_letAhead 59 rfl) rfl rfl ?_
                                refine g_getR (n := 120) hx glX9_65 (sX9_8 (by decide)) (dq tX9_letAhead 60 rfl) rfl ?_
                                refine g_iload (n := 122) hx 0 (dq tX9_letAhead 61 rfl) rfl rfl ?_
                                refine g_iald (n := 123) (q := i_72.toNat) hx (aX9_8 (b := 0) (by decide)) (dq tX9_letAhead 62 rfl) rfl (by omega) (by omega) (by omega) rfl (fun h_176l h_176u => ?_)
                                have e_177 : M_73 37 1 = M_27 37 1 := ((f_76 37 1 (by omega))).trans (f_67 37 1 (by omega))
                                have e_178 : M_73 37 3 = M_27 37 3 := ((f_76 37 3 (by omega))).trans (f_67 37 3 (by omega))
                                have h_179 := g_78 i_72.toNat (by omega) (by omega)
                                refine g_iast (n := 124) (q := (M_73 4 i_72.toNat).toNat) hx (aX6_12 (b := 73 + 1) (iX8_1 (by decide))) (dq tX9_letAhead 63 rfl) rfl (by omega) (by omega) (by omega) rfl (by omega) (by omega) (fun M_180 m_181e m_181 => ?_)
                                have g_182 : Gd M_180 37 (45 + 1) := Gd.frame g_77 (fun c j hcj => m_181 c j (by omega))
                                have g_183 : Rw M_180 z_13 := Rw.frame g_78 (fun u v hu => m_181 u v (by omega))
                                have g_184 := Gd.order g_79 m_181e m_181 (by omega) (by omega) (by omega) (by omega)
                                refine g_iinc (n := 127) (lv' := [(7, vI (i_72 + 1)), (6, vI i_24), (5, vI i_25), (4, vI i_26), (3, vI z_13), (0, aR Γ 0), (1, vI n), (2, vI what)]) hx 0 (dq tX9_letAhead 64 rfl) rfl (by decide) rfl rfl ?_
                                refine g_goto (n := 93) hx (dq tX9_letAhead 65 rfl) (by decide) ?_
                                exact ih_75 _ (by omega) (i_72 + 1) M_180 (by omega) (by omega) (fun u_ v_ huv_ => ((m_181 u_ v_ (by omega)).trans (f_76 u_ v_ (by omega)))) g_182 g_183 g_184 rfl
                          exact L_74 _ 0 M_64 (by omega) (by omega) (fun _ _ _ => rfl) g_68 g_71 h_69 rfl
                exact L_28 _ 0 1 2147483647 M_14 (by omega) (by omega) (by omega) (by omega) (by omega) (by omega) (fun _ _ _ => rfl) g_21 h_20 rfl
              · refine g_bipush (n := 49) hx (dq tX9_letAhead 26 rfl) rfl (by decide) ?_
                have e_185 : M_14 37 1 = M 37 1 := (f_17 37 1 (by omega))
                have e_186 : M_14 37 3 = M 37 3 := (f_17 37 3 (by omega))
                exact g_iret hx hr (dq tX9_letAhead 27 rfl) ⟨by decide, by decide⟩ ⟨(fun u_ v_ huv_ => (f_17 u_ v_ (by omega))), g_21⟩
            · refine g_iconst (n := 41) hx (dq tX9_letAhead 21 rfl) rfl ?_
              have e_187 : M_14 37 1 = M 37 1 := (f_17 37 1 (by omega))
              have e_188 : M_14 37 3 = M 37 3 := (f_17 37 3 (by omega))
              exact g_iret hx hr (dq tX9_letAhead 22 rfl) ⟨by decide, by decide⟩ ⟨(fun u_ v_ huv_ => (f_17 u_ v_ (by omega))), g_21⟩
          · refine g_iconst (n := 28) hx (dq tX9_letAhead 13 rfl) rfl ?_
            exact g_iret hx hr (dq tX9_letAhead 14 rfl) ⟨by decide, by decide⟩ ⟨(fun _ _ _ => rfl), gd0⟩
