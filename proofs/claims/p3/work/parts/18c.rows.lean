abbrev qctX3_readNumber (M : zM) (low : Int) (high : Int) (z : Int) (M' : zM) : Prop := (∀ u_ v_, (u_ ≠ 7 ∨ v_ ≠ 2) ∧ (u_ ≠ 7 ∨ v_ ≠ 3) ∧ (u_ ≠ 7 ∨ v_ ≠ 4) ∧ (u_ ≠ 7 ∨ v_ ≠ 5) → M' u_ v_ = M u_ v_) ∧ (RN M M' low high z)
set_option maxHeartbeats 4000000 in
set_option maxRecDepth 100000 in
theorem ctX3_readNumber (Γ : Gam) (M : zM) (low : Int) (hlowl : 0 ≤ low) (hlowu : low ≤ 2) (high : Int) (hhighl : (-2) ≤ high) (hhighu : high ≤ 99)  : CtI Γ yX3_readNumber cX3_readNumber 4 (some .int) 1 23 [aR Γ 9, vI low, vI high] M (qctX3_readNumber M low high) := by
  refine met_i (by decide) (Nat.le_of_ble_eq_true rfl) (fun x hx hr => ?_)
  show G Γ x 4 (QI Γ x (qctX3_readNumber M low high)) M 0 [(0, aR Γ 9), (1, vI low), (2, vI high)] []
  refine g_aload_n (n := 1) hx 0 (dq tX3_readNumber 0 rfl) rfl rfl ?_
  refine g_getR (n := 4) hx glX3_18 (sX3_1 (by decide)) (dq tX3_readNumber 1 rfl) rfl ?_
  refine g_getI (n := 7) hx glX3_99 (sX7_5 (by decide)) (dq tX3_readNumber 2 rfl) rfl (fun h_1l h_1u => ?_)
  refine g_if_eq (n := 10) (t := 12) hx (dq tX3_readNumber 3 rfl) (by decide) rfl (zrI h_1l h_1u (by decide) (by decide)) (fun c_2 => ?_) (fun c_2 => ?_)
  · refine g_aload_n (n := 13) hx 0 (dq tX3_readNumber 6 rfl) rfl rfl ?_
    refine g_getR (n := 16) hx glX3_18 (sX3_1 (by decide)) (dq tX3_readNumber 7 rfl) rfl ?_
    refine g_callVi (n := 19) (As := []) (rest := []) hx (ctX7_isNumber Γ M ) mlX3_102 (obX7 (by decide)) (dq tX3_readNumber 8 rfl) rfl (Nat.le_of_ble_eq_true rfl) (Nat.le_of_ble_eq_true rfl) (Nat.le_of_ble_eq_true rfl) rfl (fun z_3 M_4 h_5 p_6 => ?_)
    obtain ⟨rfl, b_8⟩ := p_6
    have J_11 : ∀ (j_10 : Int),  ((-2147483648) ≤ j_10) → (j_10 ≤ 2147483647) → G Γ x 4 (QI Γ x (qctX3_readNumber M low high)) M 33 [(0, aR Γ 9), (1, vI low), (2, vI high)] [vI j_10] := by
      intro j_10 h_12 h_13
      refine g_istore_n (n := 34) (lv' := [(3, vI j_10), (0, aR Γ 9), (1, vI low), (2, vI high)]) hx (dq tX3_readNumber 15 rfl) (by decide) rfl rfl ?_
      refine g_iload_n (n := 35) hx 0 (dq tX3_readNumber 16 rfl) rfl rfl ?_
      refine g_iload_n (n := 36) hx 2 (dq tX3_readNumber 17 rfl) rfl rfl ?_
      refine g_icmp_lt (n := 39) (t := 53) hx (dq tX3_readNumber 18 rfl) (by decide) rfl ⟨by omega, by omega⟩ (zrI hlowl hlowu (by decide) (by decide)) (fun c_14 => ?_) (fun c_14 => ?_)
      · refine g_aload_n (n := 54) hx 1 (dq tX3_readNumber 27 rfl) rfl rfl ?_
        refine g_getR (n := 57) hx glX3_18 (sX3_1 (by decide)) (dq tX3_readNumber 28 rfl) rfl ?_
        refine g_aload_n (n := 58) hx 1 (dq tX3_readNumber 29 rfl) rfl rfl ?_
        refine g_getR (n := 61) hx glX3_18 (sX3_1 (by decide)) (dq tX3_readNumber 30 rfl) rfl ?_
        refine g_callVi (n := 64) (As := []) (rest := [aR Γ 7]) hx (ctX7_isNumber Γ M ) mlX3_102 (obX7 (by decide)) (dq tX3_readNumber 31 rfl) rfl (Nat.le_of_ble_eq_true rfl) (Nat.le_of_ble_eq_true rfl) (Nat.le_of_ble_eq_true rfl) rfl (fun z_15 M_16 h_17 p_18 => ?_)
        obtain ⟨rfl, b_20⟩ := p_18
        refine g_if_eq (n := 67) (t := 71) hx (dq tX3_readNumber 32 rfl) (by decide) rfl h_17 (fun c_21 => ?_) (fun c_21 => ?_)
        · clear b_20
          refine g_iconst (n := 72) hx (dq tX3_readNumber 35 rfl) rfl ?_
          refine g_callVi (n := 75) (As := [vI 0]) (rest := []) hx (ctX7_fails Γ M 0 (by decide) (by decide)) mlX3_40 (obX7 (by decide)) (dq tX3_readNumber 36 rfl) rfl (Nat.le_of_ble_eq_true rfl) (Nat.le_of_ble_eq_true rfl) (Nat.le_of_ble_eq_true rfl) rfl (fun z_22 M_23 h_24 p_25 => ?_)
          obtain ⟨f_26, h_27, h_28⟩ := p_25
          refine g_pop (n := 76) hx (dq tX3_readNumber 37 rfl) rfl rfl ?_
          refine g_iconst (n := 77) hx (dq tX3_readNumber 38 rfl) rfl ?_
          exact g_iret hx hr (dq tX3_readNumber 39 rfl) ⟨by decide, by decide⟩ ⟨(fun u_ v_ huv_ => (f_26 u_ v_ (by omega))), (by unfold RN; exact ⟨by omega, by omega, by omega⟩)⟩
        · have b_20 := b_20.resolve_left c_21
          obtain ⟨-⟩ := b_20
          refine g_iconst (n := 68) hx (dq tX3_readNumber 33 rfl) rfl ?_
          refine g_goto (n := 72) hx (dq tX3_readNumber 34 rfl) (by decide) ?_
          refine g_callVi (n := 75) (As := [vI 1]) (rest := []) hx (ctX7_fails Γ M 1 (by decide) (by decide)) mlX3_40 (obX7 (by decide)) (dq tX3_readNumber 36 rfl) rfl (Nat.le_of_ble_eq_true rfl) (Nat.le_of_ble_eq_true rfl) (Nat.le_of_ble_eq_true rfl) rfl (fun z_29 M_30 h_31 p_32 => ?_)
          obtain ⟨f_33, h_34, h_35⟩ := p_32
          refine g_pop (n := 76) hx (dq tX3_readNumber 37 rfl) rfl rfl ?_
          refine g_iconst (n := 77) hx (dq tX3_readNumber 38 rfl) rfl ?_
          exact g_iret hx hr (dq tX3_readNumber 39 rfl) ⟨by decide, by decide⟩ ⟨(fun u_ v_ huv_ => (f_33 u_ v_ (by omega))), (by unfold RN; exact ⟨by omega, by omega, by omega⟩)⟩
      · refine g_iload_n (n := 40) hx 0 (dq tX3_readNumber 19 rfl) rfl rfl ?_
        refine g_iload_n (n := 41) hx 3 (dq tX3_readNumber 20 rfl) rfl rfl ?_
        refine g_icmp_gt (n := 44) (t := 53) hx (dq tX3_readNumber 21 rfl) (by decide) rfl ⟨by omega, by omega⟩ (zrI hhighl hhighu (by decide) (by decide)) (fun c_36 => ?_) (fun c_36 => ?_)
        · refine g_aload_n (n := 54) hx 1 (dq tX3_readNumber 27 rfl) rfl rfl ?_
          refine g_getR (n := 57) hx glX3_18 (sX3_1 (by decide)) (dq tX3_readNumber 28 rfl) rfl ?_
          refine g_aload_n (n := 58) hx 1 (dq tX3_readNumber 29 rfl) rfl rfl ?_
          refine g_getR (n := 61) hx glX3_18 (sX3_1 (by decide)) (dq tX3_readNumber 30 rfl) rfl ?_
          refine g_callVi (n := 64) (As := []) (rest := [aR Γ 7]) hx (ctX7_isNumber Γ M ) mlX3_102 (obX7 (by decide)) (dq tX3_readNumber 31 rfl) rfl (Nat.le_of_ble_eq_true rfl) (Nat.le_of_ble_eq_true rfl) (Nat.le_of_ble_eq_true rfl) rfl (fun z_37 M_38 h_39 p_40 => ?_)
          obtain ⟨rfl, b_42⟩ := p_40
          refine g_if_eq (n := 67) (t := 71) hx (dq tX3_readNumber 32 rfl) (by decide) rfl h_39 (fun c_43 => ?_) (fun c_43 => ?_)
          · clear b_42
            refine g_iconst (n := 72) hx (dq tX3_readNumber 35 rfl) rfl ?_
            refine g_callVi (n := 75) (As := [vI 0]) (rest := []) hx (ctX7_fails Γ M 0 (by decide) (by decide)) mlX3_40 (obX7 (by decide)) (dq tX3_readNumber 36 rfl) rfl (Nat.le_of_ble_eq_true rfl) (Nat.le_of_ble_eq_true rfl) (Nat.le_of_ble_eq_true rfl) rfl (fun z_44 M_45 h_46 p_47 => ?_)
            obtain ⟨f_48, h_49, h_50⟩ := p_47
            refine g_pop (n := 76) hx (dq tX3_readNumber 37 rfl) rfl rfl ?_
            refine g_iconst (n := 77) hx (dq tX3_readNumber 38 rfl) rfl ?_
            exact g_iret hx hr (dq tX3_readNumber 39 rfl) ⟨by decide, by decide⟩ ⟨(fun u_ v_ huv_ => (f_48 u_ v_ (by omega))), (by unfold RN; exact ⟨by omega, by omega, by omega⟩)⟩
          · have b_42 := b_42.resolve_left c_43
            obtain ⟨-⟩ := b_42
            refine g_iconst (n := 68) hx (dq tX3_readNumber 33 rfl) rfl ?_
            refine g_goto (n := 72) hx (dq tX3_readNumber 34 rfl) (by decide) ?_
            refine g_callVi (n := 75) (As := [vI 1]) (rest := []) hx (ctX7_fails Γ M 1 (by decide) (by decide)) mlX3_40 (obX7 (by decide)) (dq tX3_readNumber 36 rfl) rfl (Nat.le_of_ble_eq_true rfl) (Nat.le_of_ble_eq_true rfl) (Nat.le_of_ble_eq_true rfl) rfl (fun z_51 M_52 h_53 p_54 => ?_)
            obtain ⟨f_55, h_56, h_57⟩ := p_54
            refine g_pop (n := 76) hx (dq tX3_readNumber 37 rfl) rfl rfl ?_
            refine g_iconst (n := 77) hx (dq tX3_readNumber 38 rfl) rfl ?_
            exact g_iret hx hr (dq tX3_readNumber 39 rfl) ⟨by decide, by decide⟩ ⟨(fun u_ v_ huv_ => (f_55 u_ v_ (by omega))), (by unfold RN; exact ⟨by omega, by omega, by omega⟩)⟩
        · refine g_aload_n (n := 45) hx 1 (dq tX3_readNumber 22 rfl) rfl rfl ?_
          refine g_getR (n := 48) hx glX3_18 (sX3_1 (by decide)) (dq tX3_readNumber 23 rfl) rfl ?_
          refine g_callVv (n := 51) (As := []) (rest := []) hx (ctX7_pass Γ M ) mlX3_48 (obX7 (by decide)) (dq tX3_readNumber 24 rfl) rfl (Nat.le_of_ble_eq_true rfl) (Nat.le_of_ble_eq_true rfl) (Nat.le_of_ble_eq_true rfl) rfl (fun M_59 p_61 => ?_)
          have f_62 := p_61
          refine g_iload_n (n := 52) hx 0 (dq tX3_readNumber 25 rfl) rfl rfl ?_
          have e_63 : M_59 7 5 = M 7 5 := (f_62 7 5 (by omega))
          exact g_iret hx hr (dq tX3_readNumber 26 rfl) ⟨by omega, by omega⟩ ⟨(fun u_ v_ huv_ => (f_62 u_ v_ (by omega))), (by unfold RN; exact ⟨by omega, by omega, by omega⟩)⟩
    refine g_if_eq (n := 22) (t := 32) hx (dq tX3_readNumber 9 rfl) (by decide) rfl h_5 (fun c_9 => ?_) (fun c_9 => ?_)
    · clear b_8
      refine g_iconst (n := 33) hx (dq tX3_readNumber 14 rfl) rfl ?_
      exact J_11 (-1) (by omega) (by omega)
    · have b_8 := b_8.resolve_left c_9
      obtain ⟨-⟩ := b_8
      refine g_aload_n (n := 23) hx 0 (dq tX3_readNumber 10 rfl) rfl rfl ?_
      refine g_getR (n := 26) hx glX3_18 (sX3_1 (by decide)) (dq tX3_readNumber 11 rfl) rfl ?_
      refine g_callVi (n := 29) (As := []) (rest := []) hx (ctX7_number Γ M ) mlX3_106 (obX7 (by decide)) (dq tX3_readNumber 12 rfl) rfl (Nat.le_of_ble_eq_true rfl) (Nat.le_of_ble_eq_true rfl) (Nat.le_of_ble_eq_true rfl) rfl (fun z_64 M_65 h_66 p_67 => ?_)
      obtain rfl := p_67
      refine g_goto (n := 33) hx (dq tX3_readNumber 13 rfl) (by decide) ?_
      exact J_11 z_64 (by omega) (by omega)
  · refine g_iconst (n := 11) hx (dq tX3_readNumber 4 rfl) rfl ?_
    exact g_iret hx hr (dq tX3_readNumber 5 rfl) ⟨by decide, by decide⟩ ⟨(fun _ _ _ => rfl), (by unfold RN; exact ⟨by omega, by omega, by omega⟩)⟩

abbrev qctX3_isTooMany (M : zM) (kind : Int) (clause : Int) (z : Int) (M' : zM) : Prop := M = M' ∧ (z = 0 ∨ (z = 1)) ∧ (z = 0 → Fit M kind)
set_option maxHeartbeats 4000000 in
set_option maxRecDepth 100000 in
theorem ctX3_isTooMany (Γ : Gam) (M : zM) (kind : Int) (hkindl : (-2147483648) ≤ kind) (hkindu : kind ≤ 2147483647) (clause : Int) (hclausel : (-2147483648) ≤ clause) (hclauseu : clause ≤ 2147483647)  : CtI Γ yX3_isTooMany cX3_isTooMany 3 (some .boolean) 0 0 [aR Γ 9, vI kind, vI clause] M (qctX3_isTooMany M kind clause) := by
  refine met_i (by decide) (Nat.le_of_ble_eq_true rfl) (fun x hx hr => ?_)
  show G Γ x 3 (QI Γ x (qctX3_isTooMany M kind clause)) M 0 [(0, aR Γ 9), (1, vI kind), (2, vI clause)] []
  refine g_iload_n (n := 1) hx 1 (dq tX3_isTooMany 0 rfl) rfl rfl ?_
  have J_3 : ∀ (j_2 : Int),  (0 ≤ j_2) → (j_2 ≤ 1) → G Γ x 3 (QI Γ x (qctX3_isTooMany M kind clause)) M 9 [(0, aR Γ 9), (1, vI kind), (2, vI clause)] [vI j_2] := by
    intro j_2 h_4 h_5
    refine g_iload_n (n := 10) hx 2 (dq tX3_isTooMany 5 rfl) rfl rfl ?_
    have J_8 : ∀ (j_7 : Int),  (0 ≤ j_7) → (j_7 ≤ 1) → G Γ x 3 (QI Γ x (qctX3_isTooMany M kind clause)) M 18 [(0, aR Γ 9), (1, vI kind), (2, vI clause)] [vI j_7, vI j_2] := by
      intro j_7 h_9 h_10
      refine g_icmp_eq (n := 21) (t := 23) hx (dq tX3_isTooMany 10 rfl) (by decide) rfl ⟨by omega, by omega⟩ ⟨by omega, by omega⟩ (fun c_11 => ?_) (fun c_11 => ?_)
      · refine g_iload_n (n := 24) hx 1 (dq tX3_isTooMany 13 rfl) rfl rfl ?_
        by_cases c_12 : kind = 1
        · refine g_swI (t := 60) hx (dq tX3_isTooMany 14 rfl) c_12 (by decide) (by decide) rfl (by decide) ?_
          refine g_aload_n (n := 61) hx 0 (dq tX3_isTooMany 15 rfl) rfl rfl ?_
          refine g_getR (n := 64) hx glX3_12 (sX3_0 (by decide)) (dq tX3_isTooMany 16 rfl) rfl ?_
          refine g_getI (n := 67) hx glX3_58 (sX2_1 (by decide)) (dq tX3_isTooMany 17 rfl) rfl (fun h_13l h_13u => ?_)
          refine g_bipush (n := 69) hx (dq tX3_isTooMany 18 rfl) rfl (by decide) ?_
          refine g_icmp_lt (n := 72) (t := 76) hx (dq tX3_isTooMany 19 rfl) (by decide) rfl (zrI h_13l h_13u (by decide) (by decide)) ⟨by decide, by decide⟩ (fun c_14 => ?_) (fun c_14 => ?_)
          · refine g_iconst (n := 77) hx (dq tX3_isTooMany 22 rfl) rfl ?_
            exact g_zret hx hr (dq tX3_isTooMany 23 rfl) (by omega) ⟨rfl, (by omega), (fun hz0 => by unfold Fit; exact ⟨fun hk => by omega, fun hk => by omega, fun hk => by omega⟩)⟩
          · refine g_iconst (n := 73) hx (dq tX3_isTooMany 20 rfl) rfl ?_
            refine g_goto (n := 77) hx (dq tX3_isTooMany 21 rfl) (by decide) ?_
            exact g_zret hx hr (dq tX3_isTooMany 23 rfl) (by omega) ⟨rfl, (by omega), (fun hz0 => by unfold Fit; exact ⟨fun hk => by omega, fun hk => by omega, fun hk => by omega⟩)⟩
        by_cases c_15 : kind = 2
        · refine g_swI (t := 118) hx (dq tX3_isTooMany 14 rfl) c_15 (by decide) (by decide) rfl (by decide) ?_
          refine g_iconst (n := 119) hx (dq tX3_isTooMany 45 rfl) rfl ?_
          exact g_zret hx hr (dq tX3_isTooMany 46 rfl) (by omega) ⟨rfl, (by omega), (fun hz0 => by unfold Fit; exact ⟨fun hk => by omega, fun hk => by omega, fun hk => by omega⟩)⟩
        by_cases c_16 : kind = 3
        · refine g_swI (t := 78) hx (dq tX3_isTooMany 14 rfl) c_16 (by decide) (by decide) rfl (by decide) ?_
          refine g_aload_n (n := 79) hx 0 (dq tX3_isTooMany 24 rfl) rfl rfl ?_
          refine g_getR (n := 82) hx glX3_12 (sX3_0 (by decide)) (dq tX3_isTooMany 25 rfl) rfl ?_
          refine g_getI (n := 85) hx glX3_61 (sX2_2 (by decide)) (dq tX3_isTooMany 26 rfl) rfl (fun h_17l h_17u => ?_)
          refine g_iconst (n := 86) hx (dq tX3_isTooMany 27 rfl) rfl ?_
          refine g_icmp_lt (n := 89) (t := 93) hx (dq tX3_isTooMany 28 rfl) (by decide) rfl (zrI h_17l h_17u (by decide) (by decide)) ⟨by decide, by decide⟩ (fun c_18 => ?_) (fun c_18 => ?_)
          · refine g_iconst (n := 94) hx (dq tX3_isTooMany 31 rfl) rfl ?_
            exact g_zret hx hr (dq tX3_isTooMany 32 rfl) (by omega) ⟨rfl, (by omega), (fun hz0 => by unfold Fit; exact ⟨fun hk => by omega, fun hk => by omega, fun hk => by omega⟩)⟩
          · refine g_iconst (n := 90) hx (dq tX3_isTooMany 29 rfl) rfl ?_
            refine g_goto (n := 94) hx (dq tX3_isTooMany 30 rfl) (by decide) ?_
            exact g_zret hx hr (dq tX3_isTooMany 32 rfl) (by omega) ⟨rfl, (by omega), (fun hz0 => by unfold Fit; exact ⟨fun hk => by omega, fun hk => by omega, fun hk => by omega⟩)⟩
        by_cases c_19 : kind = 4
        · refine g_swI (t := 95) hx (dq tX3_isTooMany 14 rfl) c_19 (by decide) (by decide) rfl (by decide) ?_
          refine g_aload_n (n := 96) hx 0 (dq tX3_isTooMany 33 rfl) rfl rfl ?_
          refine g_getR (n := 99) hx glX3_12 (sX3_0 (by decide)) (dq tX3_isTooMany 34 rfl) rfl ?_
          refine g_getI (n := 102) hx glX3_64 (sX2_3 (by decide)) (dq tX3_isTooMany 35 rfl) rfl (fun h_20l h_20u => ?_)
          refine g_bipush (n := 104) hx (dq tX3_isTooMany 36 rfl) rfl (by decide) ?_
          refine g_icmp_lt (n := 107) (t := 111) hx (dq tX3_isTooMany 37 rfl) (by decide) rfl (zrI h_20l h_20u (by decide) (by decide)) ⟨by decide, by decide⟩ (fun c_21 => ?_) (fun c_21 => ?_)
          · refine g_iconst (n := 112) hx (dq tX3_isTooMany 40 rfl) rfl ?_
            exact g_zret hx hr (dq tX3_isTooMany 41 rfl) (by omega) ⟨rfl, (by omega), (fun hz0 => by unfold Fit; exact ⟨fun hk => by omega, fun hk => by omega, fun hk => by omega⟩)⟩
          · refine g_iconst (n := 108) hx (dq tX3_isTooMany 38 rfl) rfl ?_
            refine g_goto (n := 112) hx (dq tX3_isTooMany 39 rfl) (by decide) ?_
            exact g_zret hx hr (dq tX3_isTooMany 41 rfl) (by omega) ⟨rfl, (by omega), (fun hz0 => by unfold Fit; exact ⟨fun hk => by omega, fun hk => by omega, fun hk => by omega⟩)⟩
        by_cases c_22 : kind = 5
        · refine g_swI (t := 113) hx (dq tX3_isTooMany 14 rfl) c_22 (by decide) (by decide) rfl (by decide) ?_
          refine g_aload_n (n := 114) hx 0 (dq tX3_isTooMany 42 rfl) rfl rfl ?_
          refine g_getI (n := 117) hx glX3_25 (sX3_2 (by decide)) (dq tX3_isTooMany 43 rfl) rfl (fun h_23l h_23u => ?_)
          exact g_zret hx hr (dq tX3_isTooMany 44 rfl) (by omega) ⟨rfl, (by omega), (fun hz0 => by unfold Fit; exact ⟨fun hk => by omega, fun hk => by omega, fun hk => by omega⟩)⟩
        refine g_swO (t := 118) hx (dq tX3_isTooMany 14 rfl) (zrI hkindl hkindu (by decide) (by decide)) (by omega) (by decide) ?_
        refine g_iconst (n := 119) hx (dq tX3_isTooMany 45 rfl) rfl ?_
        exact g_zret hx hr (dq tX3_isTooMany 46 rfl) (by omega) ⟨rfl, (by omega), (fun hz0 => by unfold Fit; exact ⟨fun hk => by omega, fun hk => by omega, fun hk => by omega⟩)⟩
      · refine g_iconst (n := 22) hx (dq tX3_isTooMany 11 rfl) rfl ?_
        exact g_zret hx hr (dq tX3_isTooMany 12 rfl) (by omega) ⟨rfl, (by omega), (fun hz0 => by unfold Fit; exact ⟨fun hk => by omega, fun hk => by omega, fun hk => by omega⟩)⟩
    refine g_if_ne (n := 13) (t := 17) hx (dq tX3_isTooMany 6 rfl) (by decide) rfl (zrI hclausel hclauseu (by decide) (by decide)) (fun c_6 => ?_) (fun c_6 => ?_)
    · refine g_iconst (n := 18) hx (dq tX3_isTooMany 9 rfl) rfl ?_
      exact J_8 0 (by omega) (by omega)
    · refine g_iconst (n := 14) hx (dq tX3_isTooMany 7 rfl) rfl ?_
      refine g_goto (n := 18) hx (dq tX3_isTooMany 8 rfl) (by decide) ?_
      exact J_8 1 (by omega) (by omega)
  refine g_if_ne (n := 4) (t := 8) hx (dq tX3_isTooMany 1 rfl) (by decide) rfl (zrI hkindl hkindu (by decide) (by decide)) (fun c_1 => ?_) (fun c_1 => ?_)
  · refine g_iconst (n := 9) hx (dq tX3_isTooMany 4 rfl) rfl ?_
    exact J_3 0 (by omega) (by omega)
  · refine g_iconst (n := 5) hx (dq tX3_isTooMany 2 rfl) rfl ?_
    refine g_goto (n := 9) hx (dq tX3_isTooMany 3 rfl) (by decide) ?_
    exact J_3 1 (by omega) (by omega)

abbrev qctX3_readsClause (M : zM) (kind : Int) (z : Int) (M' : zM) : Prop := (∀ u_ v_, (u_ ≠ 7 ∨ v_ ≠ 2) ∧ (u_ ≠ 7 ∨ v_ ≠ 3) ∧ (u_ ≠ 7 ∨ v_ ≠ 4) ∧ (u_ ≠ 7 ∨ v_ ≠ 5) ∧ (u_ < 10 ∨ 10 + 8 ≤ u_) ∧ (u_ ≠ 9 ∨ v_ ≠ 2) → M' u_ v_ = M u_ v_) ∧ RvI M' ∧ (z = 0 ∨ (z = 1)) ∧ (z = 1 → M' 7 5 = 0)
set_option maxHeartbeats 4000000 in
set_option maxRecDepth 100000 in
theorem ctX3_readsClause (Γ : Gam) (M : zM) (kind : Int) (hkindl : (-2147483648) ≤ kind) (hkindu : kind ≤ 2147483647) (ex0 : Fit M kind) (rv : RvI M) : CtI Γ yX3_readsClause cX3_readsClause 4 (some .boolean) 2 46 [aR Γ 9, vI kind] M (qctX3_readsClause M kind) := by
  refine met_i (by decide) (Nat.le_of_ble_eq_true rfl) (fun x hx hr => ?_)
  show G Γ x 4 (QI Γ x (qctX3_readsClause M kind)) M 0 [(0, aR Γ 9), (1, vI kind)] []
  refine g_iload_n (n := 1) hx 1 (dq tX3_readsClause 0 rfl) rfl rfl ?_
  by_cases c_1 : kind = 0
  · refine g_swI (t := 36) hx (dq tX3_readsClause 1 rfl) c_1 (by decide) (by decide) rfl (by decide) ?_
    refine g_aload_n (n := 37) hx 0 (dq tX3_readsClause 2 rfl) rfl rfl ?_
    refine g_getR (n := 40) hx glX3_12 (sX3_0 (by decide)) (dq tX3_readsClause 3 rfl) rfl ?_
    refine g_aload_n (n := 41) hx 0 (dq tX3_readsClause 4 rfl) rfl rfl ?_
    refine g_iconst (n := 42) hx (dq tX3_readsClause 5 rfl) rfl ?_
    refine g_bipush (n := 44) hx (dq tX3_readsClause 6 rfl) rfl (by decide) ?_
    refine g_callVi (n := 47) (As := [vI 2, vI 9]) (rest := [aR Γ 10]) hx (ctX3_readNumber Γ M 2 (by decide) (by decide) 9 (by decide) (by decide)) mlX3_67 (obX3 (by decide)) (dq tX3_readsClause 7 rfl) rfl (Nat.le_of_ble_eq_true rfl) (Nat.le_of_ble_eq_true rfl) (Nat.le_of_ble_eq_true rfl) rfl (fun z_2 M_3 h_4 p_5 => ?_)
    obtain ⟨f_6, h_7⟩ := p_5
    have g_8 : RvI M_3 := fun hf => RvOk.out (rv (h_7.2.1 hf)) (fun u v h1 h2 => f_6 u v (by omega))
    have h_91 := RN.lo h_7 (by omega)
    have h_92 := RN.hi (K := 9) h_7 (by omega) (by decide)
    have e_10 : M_3 10 1 = M 10 1 := (f_6 10 1 (by omega))
    have e_11 : M_3 10 3 = M 10 3 := (f_6 10 3 (by omega))
    have e_12 : M_3 10 2 = M 10 2 := (f_6 10 2 (by omega))
    refine g_putI (n := 50) hx plX3_71 (sX2_0 (by decide)) (dq tX3_readsClause 8 rfl) rfl (by omega) (by omega) (fun M_13 m_14e m_14 => ?_)
    have g_15 : RvI M_13 := fun hf => RvOk.put (j := 0) (g_8 ((m_14 7 5 (by omega)).symm.trans hf)) (by decide) (by decide) m_14
    refine g_goto (n := 314) hx (dq tX3_readsClause 9 rfl) (by decide) ?_
    refine g_aload_n (n := 315) hx 0 (dq tX3_readsClause 146 rfl) rfl rfl ?_
    refine g_getR (n := 318) hx glX3_18 (sX3_1 (by decide)) (dq tX3_readsClause 147 rfl) rfl ?_
    refine g_getI (n := 321) hx glX3_99 (sX7_5 (by decide)) (dq tX3_readsClause 148 rfl) rfl (fun h_16l h_16u => ?_)
    have e_17 : M_13 7 5 = M_3 7 5 := (m_14 7 5 (by omega))
    refine g_if_ne (n := 324) (t := 328) hx (dq tX3_readsClause 149 rfl) (by decide) rfl (zrI h_16l h_16u (by decide) (by decide)) (fun c_18 => ?_) (fun c_18 => ?_)
    · refine g_iconst (n := 329) hx (dq tX3_readsClause 152 rfl) rfl ?_
      have e_19 : M_13 10 1 = M_3 10 1 := (m_14 10 1 (by omega))
      have e_20 : M_13 10 3 = M_3 10 3 := (m_14 10 3 (by omega))
      have e_21 : M_13 10 2 = M_3 10 2 := (m_14 10 2 (by omega))
      exact g_zret hx hr (dq tX3_readsClause 153 rfl) (by omega) ⟨(fun u_ v_ huv_ => ((m_14 u_ v_ (by omega)).trans (f_6 u_ v_ (by omega)))), g_15, (by omega), (by omega)⟩
    · refine g_iconst (n := 325) hx (dq tX3_readsClause 150 rfl) rfl ?_
      refine g_goto (n := 329) hx (dq tX3_readsClause 151 rfl) (by decide) ?_
      have e_22 : M_13 10 1 = M_3 10 1 := (m_14 10 1 (by omega))
      have e_23 : M_13 10 3 = M_3 10 3 := (m_14 10 3 (by omega))
      have e_24 : M_13 10 2 = M_3 10 2 := (m_14 10 2 (by omega))
      exact g_zret hx hr (dq tX3_readsClause 153 rfl) (by omega) ⟨(fun u_ v_ huv_ => ((m_14 u_ v_ (by omega)).trans (f_6 u_ v_ (by omega)))), g_15, (by omega), (by omega)⟩
  by_cases c_25 : kind = 1
  · have hfit := ex0.1 c_25
    refine g_swI (t := 53) hx (dq tX3_readsClause 1 rfl) c_25 (by decide) (by decide) rfl (by decide) ?_
    refine g_aload_n (n := 54) hx 0 (dq tX3_readsClause 10 rfl) rfl rfl ?_
    refine g_getR (n := 57) hx glX3_12 (sX3_0 (by decide)) (dq tX3_readsClause 11 rfl) rfl ?_
    refine g_getR (n := 60) hx glX3_74 (sX2_5 (by decide)) (dq tX3_readsClause 12 rfl) rfl ?_
    refine g_aload_n (n := 61) hx 0 (dq tX3_readsClause 13 rfl) rfl rfl ?_
    refine g_getR (n := 64) hx glX3_12 (sX3_0 (by decide)) (dq tX3_readsClause 14 rfl) rfl ?_
    refine g_getI (n := 67) hx glX3_58 (sX2_1 (by decide)) (dq tX3_readsClause 15 rfl) rfl (fun h_26l h_26u => ?_)
    refine g_aload_n (n := 68) hx 0 (dq tX3_readsClause 16 rfl) rfl rfl ?_
    refine g_iconst (n := 69) hx (dq tX3_readsClause 17 rfl) rfl ?_
    refine g_aload_n (n := 70) hx 0 (dq tX3_readsClause 18 rfl) rfl rfl ?_
    refine g_getR (n := 73) hx glX3_12 (sX3_0 (by decide)) (dq tX3_readsClause 19 rfl) rfl ?_
    refine g_getI (n := 76) hx glX3_71 (sX2_0 (by decide)) (dq tX3_readsClause 20 rfl) rfl (fun h_27l h_27u => ?_)
    refine g_iconst (n := 77) hx (dq tX3_readsClause 21 rfl) rfl ?_
    refine g_isub (n := 78) hx (dq tX3_readsClause 22 rfl) rfl ?_
    refine g_callVi (n := 81) (As := [vI 0, vI ((M 10 0) - 1)]) (rest := [vI (M 10 1), aR Γ (10 + 1)]) hx (ctX3_readNumber Γ M 0 (by decide) (by decide) ((M 10 0) - 1) (by omega) (by omega)) mlX3_67 (obX3 (by decide)) (dq tX3_readsClause 23 rfl) rfl (Nat.le_of_ble_eq_true rfl) (Nat.le_of_ble_eq_true rfl) (Nat.le_of_ble_eq_true rfl) rfl (fun z_28 M_29 h_30 p_31 => ?_)
    obtain ⟨f_32, h_33⟩ := p_31
    have g_34 : RvI M_29 := fun hf => RvOk.out (rv (h_33.2.1 hf)) (fun u v h1 h2 => f_32 u v (by omega))
    have h_351 := RN.lo h_33 (by omega)
    have h_352 := RN.hi (K := 8) h_33 (by omega) (by decide)
    have e_36 : M_29 10 1 = M 10 1 := (f_32 10 1 (by omega))
    have e_37 : M_29 10 3 = M 10 3 := (f_32 10 3 (by omega))
    have e_38 : M_29 10 2 = M 10 2 := (f_32 10 2 (by omega))
    refine g_iast (n := 82) (q := (M 10 1).toNat) hx (aX2_5 (b := 10) (by decide)) (dq tX3_readsClause 24 rfl) rfl (by omega) (by omega) (by omega) rfl (by omega) (by omega) (fun M_39 m_40e m_40 => ?_)
    have g_41 : RvI M_39 := fun hf => RvOk.row (k := 1) (i := (M 10 1).toNat) (g_34 ((m_40 7 5 (by omega)).symm.trans hf)) (by omega) m_40
    refine g_aload_n (n := 83) hx 0 (dq tX3_readsClause 25 rfl) rfl rfl ?_
    refine g_getR (n := 86) hx glX3_12 (sX3_0 (by decide)) (dq tX3_readsClause 26 rfl) rfl ?_
    refine g_dup (n := 87) hx (dq tX3_readsClause 27 rfl) rfl rfl ?_
    refine g_getI (n := 90) hx glX3_58 (sX2_1 (by decide)) (dq tX3_readsClause 28 rfl) rfl (fun h_42l h_42u => ?_)
    have e_43 : M_39 10 1 = M_29 10 1 := (m_40 10 1 (by omega))
    refine g_iconst (n := 91) hx (dq tX3_readsClause 29 rfl) rfl ?_
    refine g_iadd (n := 92) hx (dq tX3_readsClause 30 rfl) rfl ?_
    have e_44 : M_39 10 3 = M_29 10 3 := (m_40 10 3 (by omega))
    have e_45 : M_39 7 5 = M_29 7 5 := (m_40 7 5 (by omega))
    have e_46 : M_39 10 2 = M_29 10 2 := (m_40 10 2 (by omega))
    refine g_putI (n := 95) hx plX3_58 (sX2_1 (by decide)) (dq tX3_readsClause 31 rfl) rfl (by omega) (by omega) (fun M_47 m_48e m_48 => ?_)
    have g_49 : RvI M_47 := by
      intro hf
      have q5 := (m_48 7 5 (by omega) : M_47 7 5 = M_39 7 5)
      have a1 := m_40e
      have a1z : M_29 7 5 = 0 := by
        have w0 : M_39 7 5 = 0 := by omega
        have w1 : M_29 7 5 = 0 := (m_40 7 5 (by omega)).symm.trans w0
        exact w1
      have a1r := h_33.1 a1z
      exact RvOk.village (i := (M 10 1).toNat) (g_41 (by omega)) (by omega) (by omega) (by omega) m_48
    refine g_goto (n := 314) hx (dq tX3_readsClause 32 rfl) (by decide) ?_
    refine g_aload_n (n := 315) hx 0 (dq tX3_readsClause 146 rfl) rfl rfl ?_
    refine g_getR (n := 318) hx glX3_18 (sX3_1 (by decide)) (dq tX3_readsClause 147 rfl) rfl ?_
    refine g_getI (n := 321) hx glX3_99 (sX7_5 (by decide)) (dq tX3_readsClause 148 rfl) rfl (fun h_50l h_50u => ?_)
    have e_51 : M_47 7 5 = M_39 7 5 := (m_48 7 5 (by omega))
    refine g_if_ne (n := 324) (t := 328) hx (dq tX3_readsClause 149 rfl) (by decide) rfl (zrI h_50l h_50u (by decide) (by decide)) (fun c_52 => ?_) (fun c_52 => ?_)
    · refine g_iconst (n := 329) hx (dq tX3_readsClause 152 rfl) rfl ?_
      have e_53 : M_47 10 3 = M_39 10 3 := (m_48 10 3 (by omega))
      have e_54 : M_47 10 2 = M_39 10 2 := (m_48 10 2 (by omega))
      exact g_zret hx hr (dq tX3_readsClause 153 rfl) (by omega) ⟨(fun u_ v_ huv_ => (((m_48 u_ v_ (by omega)).trans (m_40 u_ v_ (by omega))).trans (f_32 u_ v_ (by omega)))), g_49, (by omega), (by omega)⟩
    · refine g_iconst (n := 325) hx (dq tX3_readsClause 150 rfl) rfl ?_
      refine g_goto (n := 329) hx (dq tX3_readsClause 151 rfl) (by decide) ?_
      have e_55 : M_47 10 3 = M_39 10 3 := (m_48 10 3 (by omega))
      have e_56 : M_47 10 2 = M_39 10 2 := (m_48 10 2 (by omega))
      exact g_zret hx hr (dq tX3_readsClause 153 rfl) (by omega) ⟨(fun u_ v_ huv_ => (((m_48 u_ v_ (by omega)).trans (m_40 u_ v_ (by omega))).trans (f_32 u_ v_ (by omega)))), g_49, (by omega), (by omega)⟩
  by_cases c_57 : kind = 2
  · refine g_swI (t := 98) hx (dq tX3_readsClause 1 rfl) c_57 (by decide) (by decide) rfl (by decide) ?_
    refine g_aload_n (n := 99) hx 0 (dq tX3_readsClause 33 rfl) rfl rfl ?_
    refine g_iconst (n := 100) hx (dq tX3_readsClause 34 rfl) rfl ?_
    refine g_aload_n (n := 101) hx 0 (dq tX3_readsClause 35 rfl) rfl rfl ?_
    refine g_getR (n := 104) hx glX3_12 (sX3_0 (by decide)) (dq tX3_readsClause 36 rfl) rfl ?_
    refine g_getI (n := 107) hx glX3_71 (sX2_0 (by decide)) (dq tX3_readsClause 37 rfl) rfl (fun h_58l h_58u => ?_)
    refine g_iconst (n := 108) hx (dq tX3_readsClause 38 rfl) rfl ?_
    refine g_isub (n := 109) hx (dq tX3_readsClause 39 rfl) rfl ?_
    refine g_callVi (n := 112) (As := [vI 0, vI ((M 10 0) - 1)]) (rest := []) hx (ctX3_readNumber Γ M 0 (by decide) (by decide) ((M 10 0) - 1) (by omega) (by omega)) mlX3_67 (obX3 (by decide)) (dq tX3_readsClause 40 rfl) rfl (Nat.le_of_ble_eq_true rfl) (Nat.le_of_ble_eq_true rfl) (Nat.le_of_ble_eq_true rfl) rfl (fun z_59 M_60 h_61 p_62 => ?_)
    obtain ⟨f_63, h_64⟩ := p_62
    have g_65 : RvI M_60 := fun hf => RvOk.out (rv (h_64.2.1 hf)) (fun u v h1 h2 => f_63 u v (by omega))
    have h_661 := RN.lo h_64 (by omega)
    have h_662 := RN.hi (K := 8) h_64 (by omega) (by decide)
    refine g_istore_n (n := 113) (lv' := [(2, vI z_59), (0, aR Γ 9), (1, vI kind)]) hx (dq tX3_readsClause 41 rfl) (by decide) rfl rfl ?_
    refine g_aload_n (n := 114) hx 1 (dq tX3_readsClause 42 rfl) rfl rfl ?_
    refine g_iconst (n := 115) hx (dq tX3_readsClause 43 rfl) rfl ?_
    refine g_bipush (n := 117) hx (dq tX3_readsClause 44 rfl) rfl (by decide) ?_
    have e_67 : M_60 10 1 = M 10 1 := (f_63 10 1 (by omega))
    have e_68 : M_60 10 3 = M 10 3 := (f_63 10 3 (by omega))
    have e_69 : M_60 10 2 = M 10 2 := (f_63 10 2 (by omega))
    refine g_callVi (n := 120) (As := [vI 1, vI 9]) (rest := []) hx (ctX3_readNumber Γ M_60 1 (by decide) (by decide) 9 (by decide) (by decide)) mlX3_67 (obX3 (by decide)) (dq tX3_readsClause 45 rfl) rfl (Nat.le_of_ble_eq_true rfl) (Nat.le_of_ble_eq_true rfl) (Nat.le_of_ble_eq_true rfl) rfl (fun z_70 M_71 h_72 p_73 => ?_)
    obtain ⟨f_74, h_75⟩ := p_73
    have g_76 : RvI M_71 := fun hf => RvOk.out (g_65 (h_75.2.1 hf)) (fun u v h1 h2 => f_74 u v (by omega))
    have h_771 := RN.lo h_75 (by omega)
    have h_772 := RN.hi (K := 9) h_75 (by omega) (by decide)
    refine g_istore_n (n := 121) (lv' := [(3, vI z_70), (2, vI z_59), (0, aR Γ 9), (1, vI kind)]) hx (dq tX3_readsClause 46 rfl) (by decide) rfl rfl ?_
    refine g_iload_n (n := 122) hx 1 (dq tX3_readsClause 47 rfl) rfl rfl ?_
    refine g_iconst (n := 123) hx (dq tX3_readsClause 48 rfl) rfl ?_
    refine g_icmp_eq (n := 126) (t := 314) hx (dq tX3_readsClause 49 rfl) (by decide) rfl h_61 ⟨by decide, by decide⟩ (fun c_78 => ?_) (fun c_78 => ?_)
    · refine g_aload_n (n := 315) hx 2 (dq tX3_readsClause 146 rfl) rfl rfl ?_
      refine g_getR (n := 318) hx glX3_18 (sX3_1 (by decide)) (dq tX3_readsClause 147 rfl) rfl ?_
      refine g_getI (n := 321) hx glX3_99 (sX7_5 (by decide)) (dq tX3_readsClause 148 rfl) rfl (fun h_79l h_79u => ?_)
      refine g_if_ne (n := 324) (t := 328) hx (dq tX3_readsClause 149 rfl) (by decide) rfl (zrI h_79l h_79u (by decide) (by decide)) (fun c_80 => ?_) (fun c_80 => ?_)
      · refine g_iconst (n := 329) hx (dq tX3_readsClause 152 rfl) rfl ?_
        have e_81 : M_71 10 1 = M_60 10 1 := (f_74 10 1 (by omega))
        have e_82 : M_71 10 3 = M_60 10 3 := (f_74 10 3 (by omega))
        have e_83 : M_71 10 2 = M_60 10 2 := (f_74 10 2 (by omega))
        exact g_zret hx hr (dq tX3_readsClause 153 rfl) (by omega) ⟨(fun u_ v_ huv_ => ((f_74 u_ v_ (by omega)).trans (f_63 u_ v_ (by omega)))), g_76, (by omega), (by omega)⟩
      · refine g_iconst (n := 325) hx (dq tX3_readsClause 150 rfl) rfl ?_
        refine g_goto (n := 329) hx (dq tX3_readsClause 151 rfl) (by decide) ?_
        have e_84 : M_71 10 1 = M_60 10 1 := (f_74 10 1 (by omega))
        have e_85 : M_71 10 3 = M_60 10 3 := (f_74 10 3 (by omega))
        have e_86 : M_71 10 2 = M_60 10 2 := (f_74 10 2 (by omega))
        exact g_zret hx hr (dq tX3_readsClause 153 rfl) (by omega) ⟨(fun u_ v_ huv_ => ((f_74 u_ v_ (by omega)).trans (f_63 u_ v_ (by omega)))), g_76, (by omega), (by omega)⟩
    · refine g_aload_n (n := 127) hx 2 (dq tX3_readsClause 50 rfl) rfl rfl ?_
      refine g_getR (n := 130) hx glX3_12 (sX3_0 (by decide)) (dq tX3_readsClause 51 rfl) rfl ?_
      refine g_getR (n := 133) hx glX3_78 (sX2_6 (by decide)) (dq tX3_readsClause 52 rfl) rfl ?_
      refine g_iload_n (n := 134) hx 1 (dq tX3_readsClause 53 rfl) rfl rfl ?_
      refine g_iload_n (n := 135) hx 0 (dq tX3_readsClause 54 rfl) rfl rfl ?_
      have e_87 : M_71 10 1 = M_60 10 1 := (f_74 10 1 (by omega))
      have e_88 : M_71 10 3 = M_60 10 3 := (f_74 10 3 (by omega))
      have e_89 : M_71 10 2 = M_60 10 2 := (f_74 10 2 (by omega))
      refine g_iast (n := 136) (q := z_59.toNat) hx (aX2_6 (b := 10) (by decide)) (dq tX3_readsClause 55 rfl) rfl (by omega) (by omega) (by omega) rfl (by omega) (by omega) (fun M_90 m_91e m_91 => ?_)
      have g_92 : RvI M_90 := fun hf => RvOk.row (k := 2) (i := z_59.toNat) (g_76 ((m_91 7 5 (by omega)).symm.trans hf)) (by omega) m_91
      refine g_goto (n := 314) hx (dq tX3_readsClause 56 rfl) (by decide) ?_
      refine g_aload_n (n := 315) hx 2 (dq tX3_readsClause 146 rfl) rfl rfl ?_
      refine g_getR (n := 318) hx glX3_18 (sX3_1 (by decide)) (dq tX3_readsClause 147 rfl) rfl ?_
      refine g_getI (n := 321) hx glX3_99 (sX7_5 (by decide)) (dq tX3_readsClause 148 rfl) rfl (fun h_93l h_93u => ?_)
      have e_94 : M_90 7 5 = M_71 7 5 := (m_91 7 5 (by omega))
      refine g_if_ne (n := 324) (t := 328) hx (dq tX3_readsClause 149 rfl) (by decide) rfl (zrI h_93l h_93u (by decide) (by decide)) (fun c_95 => ?_) (fun c_95 => ?_)
      · refine g_iconst (n := 329) hx (dq tX3_readsClause 152 rfl) rfl ?_
        have e_96 : M_90 10 1 = M_71 10 1 := (m_91 10 1 (by omega))
        have e_97 : M_90 10 3 = M_71 10 3 := (m_91 10 3 (by omega))
        have e_98 : M_90 10 2 = M_71 10 2 := (m_91 10 2 (by omega))
        exact g_zret hx hr (dq tX3_readsClause 153 rfl) (by omega) ⟨(fun u_ v_ huv_ => (((m_91 u_ v_ (by omega)).trans (f_74 u_ v_ (by omega))).trans (f_63 u_ v_ (by omega)))), g_92, (by omega), (by omega)⟩
      · refine g_iconst (n := 325) hx (dq tX3_readsClause 150 rfl) rfl ?_
        refine g_goto (n := 329) hx (dq tX3_readsClause 151 rfl) (by decide) ?_
        have e_99 : M_90 10 1 = M_71 10 1 := (m_91 10 1 (by omega))
        have e_100 : M_90 10 3 = M_71 10 3 := (m_91 10 3 (by omega))
        have e_101 : M_90 10 2 = M_71 10 2 := (m_91 10 2 (by omega))
        exact g_zret hx hr (dq tX3_readsClause 153 rfl) (by omega) ⟨(fun u_ v_ huv_ => (((m_91 u_ v_ (by omega)).trans (f_74 u_ v_ (by omega))).trans (f_63 u_ v_ (by omega)))), g_92, (by omega), (by omega)⟩
  by_cases c_102 : kind = 3
  · have hfit := ex0.2.1 c_102
    refine g_swI (t := 139) hx (dq tX3_readsClause 1 rfl) c_102 (by decide) (by decide) rfl (by decide) ?_
    refine g_aload_n (n := 140) hx 0 (dq tX3_readsClause 57 rfl) rfl rfl ?_
    refine g_getR (n := 143) hx glX3_12 (sX3_0 (by decide)) (dq tX3_readsClause 58 rfl) rfl ?_
    refine g_getR (n := 146) hx glX3_81 (sX2_7 (by decide)) (dq tX3_readsClause 59 rfl) rfl ?_
    refine g_aload_n (n := 147) hx 0 (dq tX3_readsClause 60 rfl) rfl rfl ?_
    refine g_getR (n := 150) hx glX3_12 (sX3_0 (by decide)) (dq tX3_readsClause 61 rfl) rfl ?_
    refine g_getI (n := 153) hx glX3_61 (sX2_2 (by decide)) (dq tX3_readsClause 62 rfl) rfl (fun h_103l h_103u => ?_)
    refine g_aload_n (n := 154) hx 0 (dq tX3_readsClause 63 rfl) rfl rfl ?_
    refine g_iconst (n := 155) hx (dq tX3_readsClause 64 rfl) rfl ?_
    refine g_bipush (n := 157) hx (dq tX3_readsClause 65 rfl) rfl (by decide) ?_
    refine g_callVi (n := 160) (As := [vI 1, vI 99]) (rest := [vI (M 10 2), aR Γ (10 + 3)]) hx (ctX3_readNumber Γ M 1 (by decide) (by decide) 99 (by decide) (by decide)) mlX3_67 (obX3 (by decide)) (dq tX3_readsClause 66 rfl) rfl (Nat.le_of_ble_eq_true rfl) (Nat.le_of_ble_eq_true rfl) (Nat.le_of_ble_eq_true rfl) rfl (fun z_104 M_105 h_106 p_107 => ?_)
    obtain ⟨f_108, h_109⟩ := p_107
    have g_110 : RvI M_105 := fun hf => RvOk.out (rv (h_109.2.1 hf)) (fun u v h1 h2 => f_108 u v (by omega))
    have h_1111 := RN.lo h_109 (by omega)
    have h_1112 := RN.hi (K := 99) h_109 (by omega) (by decide)
    have e_112 : M_105 10 1 = M 10 1 := (f_108 10 1 (by omega))
    have e_113 : M_105 10 3 = M 10 3 := (f_108 10 3 (by omega))
    have e_114 : M_105 10 2 = M 10 2 := (f_108 10 2 (by omega))
    refine g_iast (n := 161) (q := (M 10 2).toNat) hx (aX2_7 (b := 10) (by decide)) (dq tX3_readsClause 67 rfl) rfl (by omega) (by omega) (by omega) rfl (by omega) (by omega) (fun M_115 m_116e m_116 => ?_)
    have g_117 : RvI M_115 := fun hf => RvOk.row (k := 3) (i := (M 10 2).toNat) (g_110 ((m_116 7 5 (by omega)).symm.trans hf)) (by omega) m_116
    refine g_aload_n (n := 162) hx 0 (dq tX3_readsClause 68 rfl) rfl rfl ?_
    refine g_getR (n := 165) hx glX3_12 (sX3_0 (by decide)) (dq tX3_readsClause 69 rfl) rfl ?_
    refine g_dup (n := 166) hx (dq tX3_readsClause 70 rfl) rfl rfl ?_
    refine g_getI (n := 169) hx glX3_61 (sX2_2 (by decide)) (dq tX3_readsClause 71 rfl) rfl (fun h_118l h_118u => ?_)
    have e_119 : M_115 10 2 = M_105 10 2 := (m_116 10 2 (by omega))
    refine g_iconst (n := 170) hx (dq tX3_readsClause 72 rfl) rfl ?_
    refine g_iadd (n := 171) hx (dq tX3_readsClause 73 rfl) rfl ?_
    have e_120 : M_115 10 1 = M_105 10 1 := (m_116 10 1 (by omega))
    have e_121 : M_115 10 3 = M_105 10 3 := (m_116 10 3 (by omega))
    have e_122 : M_115 7 5 = M_105 7 5 := (m_116 7 5 (by omega))
    refine g_putI (n := 174) hx plX3_61 (sX2_2 (by decide)) (dq tX3_readsClause 74 rfl) rfl (by omega) (by omega) (fun M_123 m_124e m_124 => ?_)
    have g_125 : RvI M_123 := fun hf => RvOk.put (j := 2) (g_117 ((m_124 7 5 (by omega)).symm.trans hf)) (by decide) (by decide) m_124
    refine g_goto (n := 314) hx (dq tX3_readsClause 75 rfl) (by decide) ?_
    refine g_aload_n (n := 315) hx 0 (dq tX3_readsClause 146 rfl) rfl rfl ?_
    refine g_getR (n := 318) hx glX3_18 (sX3_1 (by decide)) (dq tX3_readsClause 147 rfl) rfl ?_
    refine g_getI (n := 321) hx glX3_99 (sX7_5 (by decide)) (dq tX3_readsClause 148 rfl) rfl (fun h_126l h_126u => ?_)
    have e_127 : M_123 7 5 = M_115 7 5 := (m_124 7 5 (by omega))
    refine g_if_ne (n := 324) (t := 328) hx (dq tX3_readsClause 149 rfl) (by decide) rfl (zrI h_126l h_126u (by decide) (by decide)) (fun c_128 => ?_) (fun c_128 => ?_)
    · refine g_iconst (n := 329) hx (dq tX3_readsClause 152 rfl) rfl ?_
      have e_129 : M_123 10 1 = M_115 10 1 := (m_124 10 1 (by omega))
      have e_130 : M_123 10 3 = M_115 10 3 := (m_124 10 3 (by omega))
      exact g_zret hx hr (dq tX3_readsClause 153 rfl) (by omega) ⟨(fun u_ v_ huv_ => (((m_124 u_ v_ (by omega)).trans (m_116 u_ v_ (by omega))).trans (f_108 u_ v_ (by omega)))), g_125, (by omega), (by omega)⟩
    · refine g_iconst (n := 325) hx (dq tX3_readsClause 150 rfl) rfl ?_
      refine g_goto (n := 329) hx (dq tX3_readsClause 151 rfl) (by decide) ?_
      have e_131 : M_123 10 1 = M_115 10 1 := (m_124 10 1 (by omega))
      have e_132 : M_123 10 3 = M_115 10 3 := (m_124 10 3 (by omega))
      exact g_zret hx hr (dq tX3_readsClause 153 rfl) (by omega) ⟨(fun u_ v_ huv_ => (((m_124 u_ v_ (by omega)).trans (m_116 u_ v_ (by omega))).trans (f_108 u_ v_ (by omega)))), g_125, (by omega), (by omega)⟩
  by_cases c_133 : kind = 4
  · have hfit := ex0.2.2 c_133
    refine g_swI (t := 177) hx (dq tX3_readsClause 1 rfl) c_133 (by decide) (by decide) rfl (by decide) ?_
    refine g_aload_n (n := 178) hx 0 (dq tX3_readsClause 76 rfl) rfl rfl ?_
    refine g_getR (n := 181) hx glX3_12 (sX3_0 (by decide)) (dq tX3_readsClause 77 rfl) rfl ?_
    refine g_getR (n := 184) hx glX3_84 (sX2_8 (by decide)) (dq tX3_readsClause 78 rfl) rfl ?_
    refine g_aload_n (n := 185) hx 0 (dq tX3_readsClause 79 rfl) rfl rfl ?_
    refine g_getR (n := 188) hx glX3_12 (sX3_0 (by decide)) (dq tX3_readsClause 80 rfl) rfl ?_
    refine g_getI (n := 191) hx glX3_64 (sX2_3 (by decide)) (dq tX3_readsClause 81 rfl) rfl (fun h_134l h_134u => ?_)
    refine g_aload_n (n := 192) hx 0 (dq tX3_readsClause 82 rfl) rfl rfl ?_
    refine g_iconst (n := 193) hx (dq tX3_readsClause 83 rfl) rfl ?_
    refine g_aload_n (n := 194) hx 0 (dq tX3_readsClause 84 rfl) rfl rfl ?_
    refine g_getR (n := 197) hx glX3_12 (sX3_0 (by decide)) (dq tX3_readsClause 85 rfl) rfl ?_
    refine g_getI (n := 200) hx glX3_61 (sX2_2 (by decide)) (dq tX3_readsClause 86 rfl) rfl (fun h_135l h_135u => ?_)
    refine g_iconst (n := 201) hx (dq tX3_readsClause 87 rfl) rfl ?_
    refine g_isub (n := 202) hx (dq tX3_readsClause 88 rfl) rfl ?_
    refine g_callVi (n := 205) (As := [vI 0, vI ((M 10 2) - 1)]) (rest := [vI (M 10 3), aR Γ (10 + 4)]) hx (ctX3_readNumber Γ M 0 (by decide) (by decide) ((M 10 2) - 1) (by omega) (by omega)) mlX3_67 (obX3 (by decide)) (dq tX3_readsClause 89 rfl) rfl (Nat.le_of_ble_eq_true rfl) (Nat.le_of_ble_eq_true rfl) (Nat.le_of_ble_eq_true rfl) rfl (fun z_136 M_137 h_138 p_139 => ?_)
    obtain ⟨f_140, h_141⟩ := p_139
    have g_142 : RvI M_137 := fun hf => RvOk.out (rv (h_141.2.1 hf)) (fun u v h1 h2 => f_140 u v (by omega))
    have h_1431 := RN.lo h_141 (by omega)
    have h_1432 := RN.hi (K := 3) h_141 (by omega) (by decide)
    have e_144 : M_137 10 1 = M 10 1 := (f_140 10 1 (by omega))
    have e_145 : M_137 10 3 = M 10 3 := (f_140 10 3 (by omega))
    have e_146 : M_137 10 2 = M 10 2 := (f_140 10 2 (by omega))
    refine g_iast (n := 206) (q := (M 10 3).toNat) hx (aX2_8 (b := 10) (by decide)) (dq tX3_readsClause 90 rfl) rfl (by omega) (by omega) (by omega) rfl (by omega) (by omega) (fun M_147 m_148e m_148 => ?_)
    have g_149 : RvI M_147 := fun hf => RvOk.row (k := 4) (i := (M 10 3).toNat) (g_142 ((m_148 7 5 (by omega)).symm.trans hf)) (by omega) m_148
    refine g_aload_n (n := 207) hx 0 (dq tX3_readsClause 91 rfl) rfl rfl ?_
    refine g_getR (n := 210) hx glX3_12 (sX3_0 (by decide)) (dq tX3_readsClause 92 rfl) rfl ?_
    refine g_getR (n := 213) hx glX3_87 (sX2_9 (by decide)) (dq tX3_readsClause 93 rfl) rfl ?_
    refine g_aload_n (n := 214) hx 0 (dq tX3_readsClause 94 rfl) rfl rfl ?_
    refine g_getR (n := 217) hx glX3_12 (sX3_0 (by decide)) (dq tX3_readsClause 95 rfl) rfl ?_
    refine g_getI (n := 220) hx glX3_64 (sX2_3 (by decide)) (dq tX3_readsClause 96 rfl) rfl (fun h_150l h_150u => ?_)
    have e_151 : M_147 10 3 = M_137 10 3 := (m_148 10 3 (by omega))
    refine g_aload_n (n := 221) hx 0 (dq tX3_readsClause 97 rfl) rfl rfl ?_
    refine g_iconst (n := 222) hx (dq tX3_readsClause 98 rfl) rfl ?_
    refine g_bipush (n := 224) hx (dq tX3_readsClause 99 rfl) rfl (by decide) ?_
    have e_152 : M_147 10 1 = M_137 10 1 := (m_148 10 1 (by omega))
    have e_153 : M_147 7 5 = M_137 7 5 := (m_148 7 5 (by omega))
    have e_154 : M_147 10 2 = M_137 10 2 := (m_148 10 2 (by omega))
    refine g_callVi (n := 227) (As := [vI 1, vI 99]) (rest := [vI (M_147 10 3), aR Γ (10 + 5)]) hx (ctX3_readNumber Γ M_147 1 (by decide) (by decide) 99 (by decide) (by decide)) mlX3_67 (obX3 (by decide)) (dq tX3_readsClause 100 rfl) rfl (Nat.le_of_ble_eq_true rfl) (Nat.le_of_ble_eq_true rfl) (Nat.le_of_ble_eq_true rfl) rfl (fun z_155 M_156 h_157 p_158 => ?_)
    obtain ⟨f_159, h_160⟩ := p_158
    have g_161 : RvI M_156 := fun hf => RvOk.out (g_149 (h_160.2.1 hf)) (fun u v h1 h2 => f_159 u v (by omega))
    have h_1621 := RN.lo h_160 (by omega)
    have h_1622 := RN.hi (K := 99) h_160 (by omega) (by decide)
    have e_163 : M_156 10 1 = M_147 10 1 := (f_159 10 1 (by omega))
    have e_164 : M_156 10 3 = M_147 10 3 := (f_159 10 3 (by omega))
    have e_165 : M_156 10 2 = M_147 10 2 := (f_159 10 2 (by omega))
    refine g_iast (n := 228) (q := (M_147 10 3).toNat) hx (aX2_9 (b := 10) (by decide)) (dq tX3_readsClause 101 rfl) rfl (by omega) (by omega) (by omega) rfl (by omega) (by omega) (fun M_166 m_167e m_167 => ?_)
    have g_168 : RvI M_166 := fun hf => RvOk.row (k := 5) (i := (M_147 10 3).toNat) (g_161 ((m_167 7 5 (by omega)).symm.trans hf)) (by omega) m_167
    refine g_aload_n (n := 229) hx 0 (dq tX3_readsClause 102 rfl) rfl rfl ?_
    refine g_getR (n := 232) hx glX3_12 (sX3_0 (by decide)) (dq tX3_readsClause 103 rfl) rfl ?_
    refine g_getR (n := 235) hx glX3_90 (sX2_10 (by decide)) (dq tX3_readsClause 104 rfl) rfl ?_
    refine g_aload_n (n := 236) hx 0 (dq tX3_readsClause 105 rfl) rfl rfl ?_
    refine g_getR (n := 239) hx glX3_12 (sX3_0 (by decide)) (dq tX3_readsClause 106 rfl) rfl ?_
    refine g_getI (n := 242) hx glX3_64 (sX2_3 (by decide)) (dq tX3_readsClause 107 rfl) rfl (fun h_169l h_169u => ?_)
    have e_170 : M_166 10 3 = M_156 10 3 := (m_167 10 3 (by omega))
    refine g_aload_n (n := 243) hx 0 (dq tX3_readsClause 108 rfl) rfl rfl ?_
    refine g_iconst (n := 244) hx (dq tX3_readsClause 109 rfl) rfl ?_
    refine g_bipush (n := 246) hx (dq tX3_readsClause 110 rfl) rfl (by decide) ?_
    have e_171 : M_166 10 1 = M_156 10 1 := (m_167 10 1 (by omega))
    have e_172 : M_166 7 5 = M_156 7 5 := (m_167 7 5 (by omega))
    have e_173 : M_166 10 2 = M_156 10 2 := (m_167 10 2 (by omega))
    refine g_callVi (n := 249) (As := [vI 1, vI 99]) (rest := [vI (M_166 10 3), aR Γ (10 + 6)]) hx (ctX3_readNumber Γ M_166 1 (by decide) (by decide) 99 (by decide) (by decide)) mlX3_67 (obX3 (by decide)) (dq tX3_readsClause 111 rfl) rfl (Nat.le_of_ble_eq_true rfl) (Nat.le_of_ble_eq_true rfl) (Nat.le_of_ble_eq_true rfl) rfl (fun z_174 M_175 h_176 p_177 => ?_)
    obtain ⟨f_178, h_179⟩ := p_177
    have g_180 : RvI M_175 := fun hf => RvOk.out (g_168 (h_179.2.1 hf)) (fun u v h1 h2 => f_178 u v (by omega))
    have h_1811 := RN.lo h_179 (by omega)
    have h_1812 := RN.hi (K := 99) h_179 (by omega) (by decide)
    have e_182 : M_175 10 1 = M_166 10 1 := (f_178 10 1 (by omega))
    have e_183 : M_175 10 3 = M_166 10 3 := (f_178 10 3 (by omega))
    have e_184 : M_175 10 2 = M_166 10 2 := (f_178 10 2 (by omega))
    refine g_iast (n := 250) (q := (M_166 10 3).toNat) hx (aX2_10 (b := 10) (by decide)) (dq tX3_readsClause 112 rfl) rfl (by omega) (by omega) (by omega) rfl (by omega) (by omega) (fun M_185 m_186e m_186 => ?_)
    have g_187 : RvI M_185 := fun hf => RvOk.row (k := 6) (i := (M_166 10 3).toNat) (g_180 ((m_186 7 5 (by omega)).symm.trans hf)) (by omega) m_186
    refine g_aload_n (n := 251) hx 0 (dq tX3_readsClause 113 rfl) rfl rfl ?_
    refine g_getR (n := 254) hx glX3_12 (sX3_0 (by decide)) (dq tX3_readsClause 114 rfl) rfl ?_
    refine g_getR (n := 257) hx glX3_93 (sX2_11 (by decide)) (dq tX3_readsClause 115 rfl) rfl ?_
    refine g_aload_n (n := 258) hx 0 (dq tX3_readsClause 116 rfl) rfl rfl ?_
    refine g_getR (n := 261) hx glX3_12 (sX3_0 (by decide)) (dq tX3_readsClause 117 rfl) rfl ?_
    refine g_getI (n := 264) hx glX3_64 (sX2_3 (by decide)) (dq tX3_readsClause 118 rfl) rfl (fun h_188l h_188u => ?_)
    have e_189 : M_185 10 3 = M_175 10 3 := (m_186 10 3 (by omega))
    refine g_aload_n (n := 265) hx 0 (dq tX3_readsClause 119 rfl) rfl rfl ?_
    refine g_iconst (n := 266) hx (dq tX3_readsClause 120 rfl) rfl ?_
    refine g_aload_n (n := 267) hx 0 (dq tX3_readsClause 121 rfl) rfl rfl ?_
    refine g_getR (n := 270) hx glX3_12 (sX3_0 (by decide)) (dq tX3_readsClause 122 rfl) rfl ?_
    refine g_getI (n := 273) hx glX3_58 (sX2_1 (by decide)) (dq tX3_readsClause 123 rfl) rfl (fun h_190l h_190u => ?_)
    have e_191 : M_185 10 1 = M_175 10 1 := (m_186 10 1 (by omega))
    refine g_iconst (n := 274) hx (dq tX3_readsClause 124 rfl) rfl ?_
    refine g_isub (n := 275) hx (dq tX3_readsClause 125 rfl) rfl ?_
    have e_192 : M_185 7 5 = M_175 7 5 := (m_186 7 5 (by omega))
    have e_193 : M_185 10 2 = M_175 10 2 := (m_186 10 2 (by omega))
    refine g_callVi (n := 278) (As := [vI 0, vI ((M_185 10 1) - 1)]) (rest := [vI (M_185 10 3), aR Γ (10 + 7)]) hx (ctX3_readNumber Γ M_185 0 (by decide) (by decide) ((M_185 10 1) - 1) (by omega) (by omega)) mlX3_67 (obX3 (by decide)) (dq tX3_readsClause 126 rfl) rfl (Nat.le_of_ble_eq_true rfl) (Nat.le_of_ble_eq_true rfl) (Nat.le_of_ble_eq_true rfl) rfl (fun z_194 M_195 h_196 p_197 => ?_)
    obtain ⟨f_198, h_199⟩ := p_197
    have g_200 : RvI M_195 := fun hf => RvOk.out (g_187 (h_199.2.1 hf)) (fun u v h1 h2 => f_198 u v (by omega))
    have h_2011 := RN.lo h_199 (by omega)
    have h_2012 := RN.hi (K := 5) h_199 (by omega) (by decide)
    have e_202 : M_195 10 1 = M_185 10 1 := (f_198 10 1 (by omega))
    have e_203 : M_195 10 3 = M_185 10 3 := (f_198 10 3 (by omega))
    have e_204 : M_195 10 2 = M_185 10 2 := (f_198 10 2 (by omega))
    refine g_iast (n := 279) (q := (M_185 10 3).toNat) hx (aX2_11 (b := 10) (by decide)) (dq tX3_readsClause 127 rfl) rfl (by omega) (by omega) (by omega) rfl (by omega) (by omega) (fun M_205 m_206e m_206 => ?_)
    have g_207 : RvI M_205 := fun hf => RvOk.row (k := 7) (i := (M_185 10 3).toNat) (g_200 ((m_206 7 5 (by omega)).symm.trans hf)) (by omega) m_206
    refine g_aload_n (n := 280) hx 0 (dq tX3_readsClause 128 rfl) rfl rfl ?_
    refine g_getR (n := 283) hx glX3_12 (sX3_0 (by decide)) (dq tX3_readsClause 129 rfl) rfl ?_
    refine g_dup (n := 284) hx (dq tX3_readsClause 130 rfl) rfl rfl ?_
    refine g_getI (n := 287) hx glX3_64 (sX2_3 (by decide)) (dq tX3_readsClause 131 rfl) rfl (fun h_208l h_208u => ?_)
    have e_209 : M_205 10 3 = M_195 10 3 := (m_206 10 3 (by omega))
    refine g_iconst (n := 288) hx (dq tX3_readsClause 132 rfl) rfl ?_
    refine g_iadd (n := 289) hx (dq tX3_readsClause 133 rfl) rfl ?_
    have e_210 : M_205 10 1 = M_195 10 1 := (m_206 10 1 (by omega))
    have e_211 : M_205 7 5 = M_195 7 5 := (m_206 7 5 (by omega))
    have e_212 : M_205 10 2 = M_195 10 2 := (m_206 10 2 (by omega))
    refine g_putI (n := 292) hx plX3_64 (sX2_3 (by decide)) (dq tX3_readsClause 134 rfl) rfl (by omega) (by omega) (fun M_213 m_214e m_214 => ?_)
    have g_215 : RvI M_213 := by
      intro hf
      have q5 := (m_214 7 5 (by omega) : M_213 7 5 = M_205 7 5)
      have a1 := (((((((m_206 (10 + 4) ((M 10 3).toNat) (by omega)).trans (f_198 (10 + 4) ((M 10 3).toNat) (by omega))).trans (m_186 (10 + 4) ((M 10 3).toNat) (by omega))).trans (f_178 (10 + 4) ((M 10 3).toNat) (by omega))).trans (m_167 (10 + 4) ((M 10 3).toNat) (by omega))).trans (f_159 (10 + 4) ((M 10 3).toNat) (by omega)))).trans m_148e
      have a1z : M_137 7 5 = 0 := by
        have w0 : M_205 7 5 = 0 := by omega
        have w1 : M_195 7 5 = 0 := (m_206 7 5 (by omega)).symm.trans w0
        have w2 : M_185 7 5 = 0 := h_199.2.1 w1
        have w3 : M_175 7 5 = 0 := (m_186 7 5 (by omega)).symm.trans w2
        have w4 : M_166 7 5 = 0 := h_179.2.1 w3
        have w5 : M_156 7 5 = 0 := (m_167 7 5 (by omega)).symm.trans w4
        have w6 : M_147 7 5 = 0 := h_160.2.1 w5
        have w7 : M_137 7 5 = 0 := (m_148 7 5 (by omega)).symm.trans w6
        exact w7
      have a1r := h_141.1 a1z
      have a2 := m_206e
      have a2z : M_195 7 5 = 0 := by
        have w0 : M_205 7 5 = 0 := by omega
        have w1 : M_195 7 5 = 0 := (m_206 7 5 (by omega)).symm.trans w0
        exact w1
      have a2r := h_199.1 a2z
      have a3 : (M 10 3).toNat = (M_185 10 3).toNat := by omega
      rw [a3] at a1
      exact RvOk.log (i := (M_185 10 3).toNat) (g_207 (by omega)) (by omega) (by omega) (by omega) (by omega) (by omega) m_214
    refine g_goto (n := 314) hx (dq tX3_readsClause 135 rfl) (by decide) ?_
    refine g_aload_n (n := 315) hx 0 (dq tX3_readsClause 146 rfl) rfl rfl ?_
    refine g_getR (n := 318) hx glX3_18 (sX3_1 (by decide)) (dq tX3_readsClause 147 rfl) rfl ?_
    refine g_getI (n := 321) hx glX3_99 (sX7_5 (by decide)) (dq tX3_readsClause 148 rfl) rfl (fun h_216l h_216u => ?_)
    have e_217 : M_213 7 5 = M_205 7 5 := (m_214 7 5 (by omega))
    refine g_if_ne (n := 324) (t := 328) hx (dq tX3_readsClause 149 rfl) (by decide) rfl (zrI h_216l h_216u (by decide) (by decide)) (fun c_218 => ?_) (fun c_218 => ?_)
    · refine g_iconst (n := 329) hx (dq tX3_readsClause 152 rfl) rfl ?_
      have e_219 : M_213 10 1 = M_205 10 1 := (m_214 10 1 (by omega))
      have e_220 : M_213 10 2 = M_205 10 2 := (m_214 10 2 (by omega))
      exact g_zret hx hr (dq tX3_readsClause 153 rfl) (by omega) ⟨(fun u_ v_ huv_ => (((((((((m_214 u_ v_ (by omega)).trans (m_206 u_ v_ (by omega))).trans (f_198 u_ v_ (by omega))).trans (m_186 u_ v_ (by omega))).trans (f_178 u_ v_ (by omega))).trans (m_167 u_ v_ (by omega))).trans (f_159 u_ v_ (by omega))).trans (m_148 u_ v_ (by omega))).trans (f_140 u_ v_ (by omega)))), g_215, (by omega), (by omega)⟩
    · refine g_iconst (n := 325) hx (dq tX3_readsClause 150 rfl) rfl ?_
      refine g_goto (n := 329) hx (dq tX3_readsClause 151 rfl) (by decide) ?_
      have e_221 : M_213 10 1 = M_205 10 1 := (m_214 10 1 (by omega))
      have e_222 : M_213 10 2 = M_205 10 2 := (m_214 10 2 (by omega))
      exact g_zret hx hr (dq tX3_readsClause 153 rfl) (by omega) ⟨(fun u_ v_ huv_ => (((((((((m_214 u_ v_ (by omega)).trans (m_206 u_ v_ (by omega))).trans (f_198 u_ v_ (by omega))).trans (m_186 u_ v_ (by omega))).trans (f_178 u_ v_ (by omega))).trans (m_167 u_ v_ (by omega))).trans (f_159 u_ v_ (by omega))).trans (m_148 u_ v_ (by omega))).trans (f_140 u_ v_ (by omega)))), g_215, (by omega), (by omega)⟩
  refine g_swO (t := 295) hx (dq tX3_readsClause 1 rfl) (zrI hkindl hkindu (by decide) (by decide)) (by omega) (by decide) ?_
  refine g_aload_n (n := 296) hx 0 (dq tX3_readsClause 136 rfl) rfl rfl ?_
  refine g_getR (n := 299) hx glX3_12 (sX3_0 (by decide)) (dq tX3_readsClause 137 rfl) rfl ?_
  refine g_aload_n (n := 300) hx 0 (dq tX3_readsClause 138 rfl) rfl rfl ?_
  refine g_iconst (n := 301) hx (dq tX3_readsClause 139 rfl) rfl ?_
  refine g_bipush (n := 303) hx (dq tX3_readsClause 140 rfl) rfl (by decide) ?_
  refine g_callVi (n := 306) (As := [vI 0, vI 9]) (rest := [aR Γ 10]) hx (ctX3_readNumber Γ M 0 (by decide) (by decide) 9 (by decide) (by decide)) mlX3_67 (obX3 (by decide)) (dq tX3_readsClause 141 rfl) rfl (Nat.le_of_ble_eq_true rfl) (Nat.le_of_ble_eq_true rfl) (Nat.le_of_ble_eq_true rfl) rfl (fun z_223 M_224 h_225 p_226 => ?_)
  obtain ⟨f_227, h_228⟩ := p_226
  have g_229 : RvI M_224 := fun hf => RvOk.out (rv (h_228.2.1 hf)) (fun u v h1 h2 => f_227 u v (by omega))
  have h_2301 := RN.lo h_228 (by omega)
  have h_2302 := RN.hi (K := 9) h_228 (by omega) (by decide)
  have e_231 : M_224 10 1 = M 10 1 := (f_227 10 1 (by omega))
  have e_232 : M_224 10 3 = M 10 3 := (f_227 10 3 (by omega))
  have e_233 : M_224 10 2 = M 10 2 := (f_227 10 2 (by omega))
  refine g_putI (n := 309) hx plX3_96 (sX2_4 (by decide)) (dq tX3_readsClause 142 rfl) rfl (by omega) (by omega) (fun M_234 m_235e m_235 => ?_)
  have g_236 : RvI M_234 := fun hf => RvOk.put (j := 4) (g_229 ((m_235 7 5 (by omega)).symm.trans hf)) (by decide) (by decide) m_235
  refine g_aload_n (n := 310) hx 0 (dq tX3_readsClause 143 rfl) rfl rfl ?_
  refine g_iconst (n := 311) hx (dq tX3_readsClause 144 rfl) rfl ?_
  have e_237 : M_234 10 1 = M_224 10 1 := (m_235 10 1 (by omega))
  have e_238 : M_234 10 3 = M_224 10 3 := (m_235 10 3 (by omega))
  have e_239 : M_234 7 5 = M_224 7 5 := (m_235 7 5 (by omega))
  have e_240 : M_234 10 2 = M_224 10 2 := (m_235 10 2 (by omega))
  refine g_putZ (n := 314) hx plX3_25 (sX3_2 (by decide)) (dq tX3_readsClause 145 rfl) rfl (by omega) (by omega) (by omega) (fun M_241 m_242e m_242 => ?_)
  have g_243 : RvI M_241 := fun hf => RvOk.out (g_236 ((m_242 7 5 (by omega)).symm.trans hf)) (fun u v h1 h2 => m_242 u v (by omega))
  refine g_aload_n (n := 315) hx 0 (dq tX3_readsClause 146 rfl) rfl rfl ?_
  refine g_getR (n := 318) hx glX3_18 (sX3_1 (by decide)) (dq tX3_readsClause 147 rfl) rfl ?_
  refine g_getI (n := 321) hx glX3_99 (sX7_5 (by decide)) (dq tX3_readsClause 148 rfl) rfl (fun h_244l h_244u => ?_)
  have e_245 : M_241 7 5 = M_234 7 5 := (m_242 7 5 (by omega))
  refine g_if_ne (n := 324) (t := 328) hx (dq tX3_readsClause 149 rfl) (by decide) rfl (zrI h_244l h_244u (by decide) (by decide)) (fun c_246 => ?_) (fun c_246 => ?_)
  · refine g_iconst (n := 329) hx (dq tX3_readsClause 152 rfl) rfl ?_
    have e_247 : M_241 10 1 = M_234 10 1 := (m_242 10 1 (by omega))
    have e_248 : M_241 10 3 = M_234 10 3 := (m_242 10 3 (by omega))
    have e_249 : M_241 10 2 = M_234 10 2 := (m_242 10 2 (by omega))
    exact g_zret hx hr (dq tX3_readsClause 153 rfl) (by omega) ⟨(fun u_ v_ huv_ => (((m_242 u_ v_ (by omega)).trans (m_235 u_ v_ (by omega))).trans (f_227 u_ v_ (by omega)))), g_243, (by omega), (by omega)⟩
  · refine g_iconst (n := 325) hx (dq tX3_readsClause 150 rfl) rfl ?_
    refine g_goto (n := 329) hx (dq tX3_readsClause 151 rfl) (by decide) ?_
    have e_250 : M_241 10 1 = M_234 10 1 := (m_242 10 1 (by omega))
    have e_251 : M_241 10 3 = M_234 10 3 := (m_242 10 3 (by omega))
    have e_252 : M_241 10 2 = M_234 10 2 := (m_242 10 2 (by omega))
    exact g_zret hx hr (dq tX3_readsClause 153 rfl) (by omega) ⟨(fun u_ v_ huv_ => (((m_242 u_ v_ (by omega)).trans (m_235 u_ v_ (by omega))).trans (f_227 u_ v_ (by omega)))), g_243, (by omega), (by omega)⟩
