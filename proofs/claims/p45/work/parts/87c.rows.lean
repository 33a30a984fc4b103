abbrev qctX10_riverWord3 (M : zM) (k : Int) (z : Nat) (M' : zM) : Prop := M = M' ∧ (csL z = wRiv.getD k.toNat []) ∧ (LW z) ∧ (sln z = rlF k) ∧ (z < 25)
set_option maxHeartbeats 4000000 in
set_option maxRecDepth 100000 in
theorem ctX10_riverWord3 (Γ : Gam) (M : zM) (k : Int) (hkl : 0 ≤ k) (hku : k ≤ 5)  : CtS Γ yX10_riverWord cX10_riverWord 1 (some (.object "java/lang/String")) 0 0 [vI k] M (qctX10_riverWord3 M k) := by
  refine met_s (by decide) (Nat.le_of_ble_eq_true rfl) (fun x hx hr => ?_)
  show G Γ x 1 (QS Γ x (qctX10_riverWord3 M k)) M 0 [(0, vI k)] []
  refine g_iload_n (n := 1) hx 0 (dq tX10_riverWord 0 rfl) rfl rfl ?_
  by_cases c_1 : k = 0
  · refine g_swI (t := 36) hx (dq tX10_riverWord 1 rfl) c_1 (by decide) (by decide) rfl (by decide) ?_
    refine g_ldcwS (n := 39) (q := 16) hx rfl rfl rfl (dq tX10_riverWord 2 rfl) rfl ?_
    exact g_sret (i := 16) hx hr (dq tX10_riverWord 3 rfl) ⟨rfl, (by have e : k = 0 := (by omega); rw [e]; decide +kernel), (by unfold LW; decide +kernel), (by have e : k = 0 := (by omega); rw [e]; decide), (by omega)⟩
  by_cases c_2 : k = 1
  · refine g_swI (t := 40) hx (dq tX10_riverWord 1 rfl) c_2 (by decide) (by decide) rfl (by decide) ?_
    refine g_ldcS (n := 42) (q := 5) hx rfl rfl rfl (dq tX10_riverWord 4 rfl) rfl ?_
    exact g_sret (i := 5) hx hr (dq tX10_riverWord 5 rfl) ⟨rfl, (by have e : k = 1 := (by omega); rw [e]; decide +kernel), (by unfold LW; decide +kernel), (by have e : k = 1 := (by omega); rw [e]; decide), (by omega)⟩
  by_cases c_3 : k = 2
  · refine g_swI (t := 43) hx (dq tX10_riverWord 1 rfl) c_3 (by decide) (by decide) rfl (by decide) ?_
    refine g_ldcwS (n := 46) (q := 17) hx rfl rfl rfl (dq tX10_riverWord 6 rfl) rfl ?_
    exact g_sret (i := 17) hx hr (dq tX10_riverWord 7 rfl) ⟨rfl, (by have e : k = 2 := (by omega); rw [e]; decide +kernel), (by unfold LW; decide +kernel), (by have e : k = 2 := (by omega); rw [e]; decide), (by omega)⟩
  by_cases c_4 : k = 3
  · refine g_swI (t := 47) hx (dq tX10_riverWord 1 rfl) c_4 (by decide) (by decide) rfl (by decide) ?_
    refine g_ldcS (n := 49) (q := 1) hx rfl rfl rfl (dq tX10_riverWord 8 rfl) rfl ?_
    exact g_sret (i := 1) hx hr (dq tX10_riverWord 9 rfl) ⟨rfl, (by have e : k = 3 := (by omega); rw [e]; decide +kernel), (by unfold LW; decide +kernel), (by have e : k = 3 := (by omega); rw [e]; decide), (by omega)⟩
  by_cases c_5 : k = 4
  · refine g_swI (t := 50) hx (dq tX10_riverWord 1 rfl) c_5 (by decide) (by decide) rfl (by decide) ?_
    refine g_ldcS (n := 52) (q := 0) hx rfl rfl rfl (dq tX10_riverWord 10 rfl) rfl ?_
    exact g_sret (i := 0) hx hr (dq tX10_riverWord 11 rfl) ⟨rfl, (by have e : k = 4 := (by omega); rw [e]; decide +kernel), (by unfold LW; decide +kernel), (by have e : k = 4 := (by omega); rw [e]; decide), (by omega)⟩
  refine g_swO (t := 53) hx (dq tX10_riverWord 1 rfl) (zrI hkl hku (by decide) (by decide)) (by omega) (by decide) ?_
  refine g_ldcwS (n := 56) (q := 18) hx rfl rfl rfl (dq tX10_riverWord 12 rfl) rfl ?_
  exact g_sret (i := 18) hx hr (dq tX10_riverWord 13 rfl) ⟨rfl, (by have e : k = 5 := (by omega); rw [e]; decide +kernel), (by unfold LW; decide +kernel), (by have e : k = 5 := (by omega); rw [e]; decide), (by omega)⟩

abbrev qctX10_amount3 (M : zM) (low : Int) (top_ : Int) (t9 : Nat → Int) (n9 : Nat) (a9 : Nat) (z : Int) (M' : zM) : Prop := (∀ u_ v_, (u_ ≠ 229 ∨ v_ ≠ 38) ∧ (u_ ≠ 229 ∨ v_ ≠ 39) → M' u_ v_ = M u_ v_) ∧ (M 229 38 ≤ M' 229 38) ∧ (M' 229 38 = M 229 38 ∨ M' 229 38 ≤ M 229 37) ∧ (M' 229 39 = 0 → (M 229 39 = 0 ∧ low ≤ z ∧ z ≤ top_)) ∧ (oa (M' 229 39) (sk t9 n9 (M' 229 38).toNat) = bn (oa (M 229 39) (sk t9 n9 a9)) (Am t9 n9 low top_)) ∧ (M' 229 39 = 0 → z = nv t9 (sk t9 n9 a9) (stp t9 n9 (sk t9 n9 a9) - (sk t9 n9 a9)))
set_option maxHeartbeats 4000000 in
set_option maxRecDepth 100000 in
theorem ctX10_amount3 (Γ : Gam) (M : zM) (low : Int) (hlowl : 0 ≤ low) (hlowu : low ≤ 2) (top_ : Int) (htop_l : (-2147483648) ≤ top_) (htop_u : top_ ≤ 2147483647) (t9 : Nat → Int) (n9 : Nat) (a9 : Nat) (pre0 : M 229 38 = a9) (ex0 : Ty M t9 n9) : CtI Γ yX10_amount cX10_amount 5 (some .int) 3 68 [aR Γ 229, vI low, vI top_] M (qctX10_amount3 M low top_ t9 n9 a9) := by
  refine met_i (by decide) (Nat.le_of_ble_eq_true rfl) (fun x hx hr => ?_)
  show G Γ x 5 (QI Γ x (qctX10_amount3 M low top_ t9 n9 a9)) M 0 [(0, aR Γ 229), (1, vI low), (2, vI top_)] []
  refine g_iv (fun hI0 => ?_)
  have hI_37 : (0 : Int) ≤ M 229 37 ∧ M 229 37 ≤ 400 := hI0 229 37
  have hI_38 : (0 : Int) ≤ M 229 38 ∧ M 229 38 ≤ 402 := hI0 229 38
  have hI_45 : (0 : Int) ≤ M 229 45 ∧ M 229 45 ≤ 402 := hI0 229 45
  have hI_42 : (0 : Int) ≤ M 229 42 ∧ M 229 42 ≤ 300 := hI0 229 42
  have hI_39 : (0 : Int) ≤ M 229 39 ∧ M 229 39 ≤ 100000 := hI0 229 39
  have hI_40 : (0 : Int) ≤ M 229 40 ∧ M 229 40 ≤ 5 := hI0 229 40
  have hI_41 : (0 : Int) ≤ M 229 41 ∧ M 229 41 ≤ 6 := hI0 229 41
  clear hI0
  have hty_n := ex0.1
  refine g_aload_n (n := 1) hx 0 (dq tX10_amount 0 rfl) rfl rfl ?_
  refine g_callVv (n := 4) (As := []) (rest := []) hx (ctX10_blanks3 Γ M t9 n9 a9 (by omega) ex0) mlX10_268 (obX10 (by decide)) (dq tX10_amount 1 rfl) rfl (Nat.le_of_ble_eq_true rfl) (Nat.le_of_ble_eq_true rfl) (Nat.le_of_ble_eq_true rfl) rfl (fun M_2 p_4 => ?_)
  obtain ⟨f_5, h_6, h_7, h_8⟩ := p_4
  have g_9 : Ty M_2 t9 n9 := Ty.frame ex0 (fun c j hcj => f_5 c j (by omega))
  refine g_aload_n (n := 5) hx 0 (dq tX10_amount 2 rfl) rfl rfl ?_
  refine g_getI (n := 8) hx glX10_249 (sX10_38 (by decide)) (dq tX10_amount 3 rfl) rfl (fun h_10l h_10u => ?_)
  refine g_istore_n (n := 9) (lv' := [(3, vI (M_2 229 38)), (0, aR Γ 229), (1, vI low), (2, vI top_)]) hx (dq tX10_amount 4 rfl) (by decide) rfl rfl ?_
  refine g_aload_n (n := 10) hx 1 (dq tX10_amount 5 rfl) rfl rfl ?_
  refine g_getI (n := 13) hx glX10_246 (sX10_39 (by decide)) (dq tX10_amount 6 rfl) rfl (fun h_11l h_11u => ?_)
  have e_12 : M_2 229 39 = M 229 39 := (f_5 229 39 (by omega))
  refine g_if_ne (n := 16) (t := 26) hx (dq tX10_amount 7 rfl) (by decide) rfl (zrI h_11l h_11u (by decide) (by decide)) (fun c_13 => ?_) (fun c_13 => ?_)
  · refine g_iconst (n := 27) hx (dq tX10_amount 12 rfl) rfl ?_
    refine g_istore (n := 29) (lv' := [(4, vI 0), (3, vI (M_2 229 38)), (0, aR Γ 229), (1, vI low), (2, vI top_)]) hx (dq tX10_amount 13 rfl) (by decide) rfl rfl ?_
    refine g_aload_n (n := 30) hx 2 (dq tX10_amount 14 rfl) rfl rfl ?_
    refine g_getI (n := 33) hx glX10_246 (sX10_39 (by decide)) (dq tX10_amount 15 rfl) rfl (fun h_14l h_14u => ?_)
    refine g_if_ne (n := 36) (t := 55) hx (dq tX10_amount 16 rfl) (by decide) rfl (zrI h_14l h_14u (by decide) (by decide)) (fun c_15 => ?_) (fun c_15 => ?_)
    · refine g_iload (n := 57) hx 0 (dq tX10_amount 29 rfl) rfl rfl ?_
      have e_16 : M_2 229 37 = M 229 37 := (f_5 229 37 (by omega))
      exact g_iret hx hr (dq tX10_amount 30 rfl) ⟨by decide, by decide⟩ ⟨(fun u_ v_ huv_ => (f_5 u_ v_ (by omega))), (by omega), (by omega), (by omega), (oa_stay (by omega) (by omega)), (fun h0 => absurd h0 (by omega))⟩
    · omega
  · refine g_aload_n (n := 17) hx 1 (dq tX10_amount 8 rfl) rfl rfl ?_
    refine g_ldcw (n := 20) (z := 99999) hx wd_1440 (by decide) (dq tX10_amount 9 rfl) rfl ?_
    have e_17 : M_2 229 37 = M 229 37 := (f_5 229 37 (by omega))
    refine g_callVi (n := 23) (As := [vI 99999]) (rest := []) hx (ctX10_digits3 Γ M_2 99999 (by decide) (by decide) t9 n9 (sk t9 n9 a9) (by omega) g_9) mlX10_293 (obX10 (by decide)) (dq tX10_amount 10 rfl) rfl (Nat.le_of_ble_eq_true rfl) (Nat.le_of_ble_eq_true rfl) (Nat.le_of_ble_eq_true rfl) rfl (fun z_18 M_19 h_20 p_21 => ?_)
    obtain ⟨f_22, h_23, h_24, h_25, h_26, h_27⟩ := p_21
    have g_28 : Ty M_19 t9 n9 := Ty.frame g_9 (fun c j hcj => f_22 c j (by omega))
    refine g_goto (n := 27) hx (dq tX10_amount 11 rfl) (by decide) ?_
    refine g_istore (n := 29) (lv' := [(4, vI z_18), (3, vI (M_2 229 38)), (0, aR Γ 229), (1, vI low), (2, vI top_)]) hx (dq tX10_amount 13 rfl) (by decide) rfl rfl ?_
    refine g_aload_n (n := 30) hx 2 (dq tX10_amount 14 rfl) rfl rfl ?_
    refine g_getI (n := 33) hx glX10_246 (sX10_39 (by decide)) (dq tX10_amount 15 rfl) rfl (fun h_29l h_29u => ?_)
    refine g_if_ne (n := 36) (t := 55) hx (dq tX10_amount 16 rfl) (by decide) rfl (zrI h_29l h_29u (by decide) (by decide)) (fun c_30 => ?_) (fun c_30 => ?_)
    · refine g_iload (n := 57) hx 0 (dq tX10_amount 29 rfl) rfl rfl ?_
      have e_31 : M_19 229 37 = M_2 229 37 := (f_22 229 37 (by omega))
      exact g_iret hx hr (dq tX10_amount 30 rfl) h_20 ⟨(fun u_ v_ huv_ => ((f_22 u_ v_ (by omega)).trans (f_5 u_ v_ (by omega)))), (by omega), (by omega), (by omega), (oa_bn (am_df (by omega) (by omega) h_27) (by omega) rfl), (fun h0 => absurd h0 (by omega))⟩
    · obtain ⟨hdd, hdp, hds, hdv⟩ := am_dk (by omega) (by omega) h_27
      refine g_iload (n := 38) hx 0 (dq tX10_amount 17 rfl) rfl rfl ?_
      refine g_i2l (n := 39) hx (dq tX10_amount 18 rfl) rfl h_20 ?_
      refine g_iload_n (n := 40) hx 3 (dq tX10_amount 19 rfl) rfl rfl ?_
      refine g_i2l (n := 41) hx (dq tX10_amount 20 rfl) rfl (zrI hlowl hlowu (by decide) (by decide)) ?_
      refine g_iload_n (n := 42) hx 4 (dq tX10_amount 21 rfl) rfl rfl ?_
      refine g_i2l (n := 43) hx (dq tX10_amount 22 rfl) rfl (zrI htop_l htop_u (by decide) (by decide)) ?_
      have e_32 : M_19 229 37 = M_2 229 37 := (f_22 229 37 (by omega))
      refine g_callSi (n := 46) (As := [vL z_18, vL low, vL top_]) (rest := []) hx (ctX10_in Γ M_19 z_18 (by omega) (by omega) low (by omega) (by omega) top_ (by omega) (by omega)) mlX10_191 (dq tX10_amount 23 rfl) rfl (Nat.le_of_ble_eq_true rfl) (Nat.le_of_ble_eq_true rfl) (Nat.le_of_ble_eq_true rfl) rfl (fun z_33 M_34 h_35 p_36 => ?_)
      obtain ⟨rfl, b_38, h_39⟩ := p_36
      refine g_if_ne (n := 49) (t := 55) hx (dq tX10_amount 24 rfl) (by decide) rfl h_35 (fun c_42 => ?_) (fun c_42 => ?_)
      · have b_38 := b_38.resolve_left c_42
        obtain ⟨-, h_40, h_41⟩ := b_38
        refine g_iload (n := 57) hx 0 (dq tX10_amount 29 rfl) rfl rfl ?_
        exact g_iret hx hr (dq tX10_amount 30 rfl) h_20 ⟨(fun u_ v_ huv_ => ((f_22 u_ v_ (by omega)).trans (f_5 u_ v_ (by omega)))), (by omega), (by omega), (by omega), (am_ok (v := z_18) (by omega) (by omega) hdd hds hdv (by omega) (by omega) (by unfold nx; exact sk_eq (by omega))), (fun _ => hdv)⟩
      · clear b_38
        refine g_aload_n (n := 50) hx 2 (dq tX10_amount 25 rfl) rfl rfl ?_
        refine g_iconst (n := 51) hx (dq tX10_amount 26 rfl) rfl ?_
        refine g_iload_n (n := 52) hx 1 (dq tX10_amount 27 rfl) rfl rfl ?_
        refine g_callVv (n := 55) (As := [vI 1, vI (M_2 229 38)]) (rest := []) hx (ctX10_fails3 Γ M_19 1 (by decide) (by decide) (M_2 229 38) (by omega) (by omega)) mlX10_284 (obX10 (by decide)) (dq tX10_amount 28 rfl) rfl (Nat.le_of_ble_eq_true rfl) (Nat.le_of_ble_eq_true rfl) (Nat.le_of_ble_eq_true rfl) rfl (fun M_44 p_46 => ?_)
        obtain ⟨f_47, h_48, h_49⟩ := p_46
        have g_50 : Ty M_44 t9 n9 := Ty.frame g_28 (fun c j hcj => f_47 c j (by omega))
        refine g_iload (n := 57) hx 0 (dq tX10_amount 29 rfl) rfl rfl ?_
        have e_51 : M_44 229 37 = M_19 229 37 := (f_47 229 37 (by omega))
        have e_52 : M_44 229 38 = M_19 229 38 := (f_47 229 38 (by omega))
        exact g_iret hx hr (dq tX10_amount 30 rfl) h_20 ⟨(fun u_ v_ huv_ => (((f_47 u_ v_ (by omega)).trans (f_22 u_ v_ (by omega))).trans (f_5 u_ v_ (by omega)))), (by omega), (by omega), (by omega), (am_1 (by omega) hdd (fun _ => by omega) (by omega)), (fun _ => hdv)⟩

abbrev qctX10_readsLog3 (M : zM) (t9 : Nat → Int) (n9 : Nat) (a9 : Nat) (M' : zM) : Prop := (∀ u_ v_, (u_ ≠ 229 ∨ v_ ≠ 38) ∧ (u_ ≠ 229 ∨ v_ ≠ 39) ∧ (u_ ≠ 229 + 29 ∨ v_ ≠ 3) ∧ u_ ≠ 229 + 33 ∧ u_ ≠ 229 + 34 ∧ u_ ≠ 229 + 35 ∧ u_ ≠ 229 + 36 → M' u_ v_ = M u_ v_) ∧ Nw M' ∧ (M 229 38 ≤ M' 229 38) ∧ (M' 229 38 = M 229 38 ∨ M' 229 38 ≤ M 229 37) ∧ (M' 229 39 = 0 → M 229 39 = 0) ∧ (oa (M' 229 39) (sk t9 n9 (M' 229 38).toNat) = Lg9 t9 n9 (M (229 + 29) 1) (M (229 + 29) 2) (oa (M 229 39) (sk t9 n9 a9))) ∧ (M' (229 + 29) 3 = M (229 + 29) 3 + 1)
set_option maxHeartbeats 4000000 in
set_option maxRecDepth 100000 in
theorem ctX10_readsLog3 (Γ : Gam) (M : zM) (t9 : Nat → Int) (n9 : Nat) (a9 : Nat) (pre0 : M (229 + 29) 3 ≤ 11) (pre1 : M 229 38 = a9) (ex0 : Ty M t9 n9) (nw : Nw M) : CtV Γ yX10_readsLog cX10_readsLog 2 none 4 92 [aR Γ 229] M (qctX10_readsLog3 M t9 n9 a9) := by
  refine met_v (by decide) (Nat.le_of_ble_eq_true rfl) (fun x hx hr => ?_)
  show G Γ x 2 (QV Γ x (qctX10_readsLog3 M t9 n9 a9)) M 0 [(0, aR Γ 229)] []
  refine g_iv (fun hI0 => ?_)
  have hI_37 : (0 : Int) ≤ M 229 37 ∧ M 229 37 ≤ 400 := hI0 229 37
  have hI_38 : (0 : Int) ≤ M 229 38 ∧ M 229 38 ≤ 402 := hI0 229 38
  have hI_45 : (0 : Int) ≤ M 229 45 ∧ M 229 45 ≤ 402 := hI0 229 45
  have hI_42 : (0 : Int) ≤ M 229 42 ∧ M 229 42 ≤ 300 := hI0 229 42
  have hI_39 : (0 : Int) ≤ M 229 39 ∧ M 229 39 ≤ 100000 := hI0 229 39
  have hI_40 : (0 : Int) ≤ M 229 40 ∧ M 229 40 ≤ 5 := hI0 229 40
  have hI_41 : (0 : Int) ≤ M 229 41 ∧ M 229 41 ≤ 6 := hI0 229 41
  clear hI0
  have hty_n := ex0.1
  refine g_aload_n (n := 1) hx 0 (dq tX10_readsLog 0 rfl) rfl rfl ?_
  refine g_getR (n := 4) hx glX10_94 (sX10_29 (by decide)) (dq tX10_readsLog 1 rfl) rfl ?_
  refine g_iconst (n := 5) hx (dq tX10_readsLog 2 rfl) rfl ?_
  refine g_ialdX (n := 6) (q := 3) hx (aX10_29 (b := 229) (by decide)) (dq tX10_readsLog 3 rfl) rfl (by decide) (by decide) (by decide) rfl (fun h_1l h_1u => ?_)
  have h_1l : 0 ≤ M (229 + 29) 3 := h_1l
  have h_1u : M (229 + 29) 3 ≤ 12 := h_1u
  refine g_istore_n (n := 7) (lv' := [(1, vI (M (229 + 29) 3)), (0, aR Γ 229)]) hx (dq tX10_readsLog 4 rfl) (by decide) rfl rfl ?_
  refine g_aload_n (n := 8) hx 1 (dq tX10_readsLog 5 rfl) rfl rfl ?_
  refine g_getR (n := 11) hx glX10_106 (sX10_33 (by decide)) (dq tX10_readsLog 6 rfl) rfl ?_
  refine g_iload_n (n := 12) hx 0 (dq tX10_readsLog 7 rfl) rfl rfl ?_
  refine g_aload_n (n := 13) hx 1 (dq tX10_readsLog 8 rfl) rfl rfl ?_
  refine g_iconst (n := 14) hx (dq tX10_readsLog 9 rfl) rfl ?_
  refine g_aload_n (n := 15) hx 1 (dq tX10_readsLog 10 rfl) rfl rfl ?_
  refine g_getR (n := 18) hx glX10_94 (sX10_29 (by decide)) (dq tX10_readsLog 11 rfl) rfl ?_
  refine g_iconst (n := 19) hx (dq tX10_readsLog 12 rfl) rfl ?_
  refine g_ialdX (n := 20) (q := 2) hx (aX10_29 (b := 229) (by decide)) (dq tX10_readsLog 13 rfl) rfl (by decide) (by decide) (by decide) rfl (fun h_2l h_2u => ?_)
  have h_2l : 0 ≤ M (229 + 29) 2 := h_2l
  have h_2u : M (229 + 29) 2 ≤ 4 := h_2u
  refine g_iconst (n := 21) hx (dq tX10_readsLog 14 rfl) rfl ?_
  refine g_isub (n := 22) hx (dq tX10_readsLog 15 rfl) rfl ?_
  refine g_callVi (n := 25) (As := [vI 0, vI ((M (229 + 29) 2) - 1)]) (rest := [vI (M (229 + 29) 3), aR Γ (229 + 33)]) hx (ctX10_amount3 Γ M 0 (by decide) (by decide) ((M (229 + 29) 2) - 1) (by omega) (by omega) t9 n9 a9 (by omega) ex0) mlX10_347 (obX10 (by decide)) (dq tX10_readsLog 16 rfl) rfl (Nat.le_of_ble_eq_true rfl) (Nat.le_of_ble_eq_true rfl) (Nat.le_of_ble_eq_true rfl) rfl (fun z_3 M_4 h_5 p_6 => ?_)
  obtain ⟨f_7, h_8, h_9, h_10, h_11, h_12⟩ := p_6
  have g_13 : Nw M_4 := Nw.gen nw (by omega) (fun j hj => f_7 _ j (by omega)) (fun v hv => f_7 _ v (by omega)) (fun l hl => f_7 _ l (by omega)) (fun l hl => f_7 _ l (by omega))
  have g_14 : Ty M_4 t9 n9 := Ty.frame ex0 (fun c j hcj => f_7 c j (by omega))
  have e_15 : M_4 229 37 = M 229 37 := (f_7 229 37 (by omega))
  have e_16 : M_4 (229 + 29) 0 = M (229 + 29) 0 := (f_7 (229 + 29) 0 (by omega))
  have e_17 : M_4 (229 + 29) 1 = M (229 + 29) 1 := (f_7 (229 + 29) 1 (by omega))
  have e_18 : M_4 (229 + 29) 2 = M (229 + 29) 2 := (f_7 (229 + 29) 2 (by omega))
  have e_19 : M_4 (229 + 29) 3 = M (229 + 29) 3 := (f_7 (229 + 29) 3 (by omega))
  have e_20 : M_4 229 47 = M 229 47 := (f_7 229 47 (by omega))
  refine g_iast (n := 26) (q := (M (229 + 29) 3).toNat) hx (aX10_33 (b := 229) (by decide)) (dq tX10_readsLog 17 rfl) rfl (by omega) (by omega) (by omega) rfl (by omega) (by omega) (fun M_21 m_22e m_22 => ?_)
  have g_23 : Nw M_21 := Nw.gen g_13 (by have q39 := m_22 229 39 (by omega); omega) (fun j hj => m_22 _ j (by omega)) (fun v hv => m_22 _ v (by omega)) (fun l hl => m_22 _ l (by omega)) (fun l hl => m_22 _ l (by omega))
  have g_24 : Ty M_21 t9 n9 := Ty.frame g_14 (fun c j hcj => m_22 c j (by omega))
  refine g_aload_n (n := 27) hx 1 (dq tX10_readsLog 18 rfl) rfl rfl ?_
  refine g_getR (n := 30) hx glX10_109 (sX10_34 (by decide)) (dq tX10_readsLog 19 rfl) rfl ?_
  refine g_iload_n (n := 31) hx 0 (dq tX10_readsLog 20 rfl) rfl rfl ?_
  refine g_aload_n (n := 32) hx 1 (dq tX10_readsLog 21 rfl) rfl rfl ?_
  refine g_iconst (n := 33) hx (dq tX10_readsLog 22 rfl) rfl ?_
  refine g_bipush (n := 35) hx (dq tX10_readsLog 23 rfl) rfl (by decide) ?_
  have e_25 : M_21 229 37 = M_4 229 37 := (m_22 229 37 (by omega))
  have e_26 : M_21 229 38 = M_4 229 38 := (m_22 229 38 (by omega))
  have e_27 : M_21 229 39 = M_4 229 39 := (m_22 229 39 (by omega))
  have e_28 : M_21 (229 + 29) 0 = M_4 (229 + 29) 0 := (m_22 (229 + 29) 0 (by omega))
  have e_29 : M_21 (229 + 29) 1 = M_4 (229 + 29) 1 := (m_22 (229 + 29) 1 (by omega))
  have e_30 : M_21 (229 + 29) 2 = M_4 (229 + 29) 2 := (m_22 (229 + 29) 2 (by omega))
  have e_31 : M_21 (229 + 29) 3 = M_4 (229 + 29) 3 := (m_22 (229 + 29) 3 (by omega))
  have e_32 : M_21 229 47 = M_4 229 47 := (m_22 229 47 (by omega))
  refine g_callVi (n := 38) (As := [vI 1, vI 99]) (rest := [vI (M (229 + 29) 3), aR Γ (229 + 34)]) hx (ctX10_amount3 Γ M_21 1 (by decide) (by decide) 99 (by decide) (by decide) t9 n9 ((M_4 229 38).toNat) (by omega) g_24) mlX10_347 (obX10 (by decide)) (dq tX10_readsLog 24 rfl) rfl (Nat.le_of_ble_eq_true rfl) (Nat.le_of_ble_eq_true rfl) (Nat.le_of_ble_eq_true rfl) rfl (fun z_33 M_34 h_35 p_36 => ?_)
  obtain ⟨f_37, h_38, h_39, h_40, h_41, h_42⟩ := p_36
  have g_43 : Nw M_34 := Nw.gen g_23 (by omega) (fun j hj => f_37 _ j (by omega)) (fun v hv => f_37 _ v (by omega)) (fun l hl => f_37 _ l (by omega)) (fun l hl => f_37 _ l (by omega))
  have g_44 : Ty M_34 t9 n9 := Ty.frame g_24 (fun c j hcj => f_37 c j (by omega))
  have e_45 : M_34 229 37 = M_21 229 37 := (f_37 229 37 (by omega))
  have e_46 : M_34 (229 + 29) 0 = M_21 (229 + 29) 0 := (f_37 (229 + 29) 0 (by omega))
  have e_47 : M_34 (229 + 29) 1 = M_21 (229 + 29) 1 := (f_37 (229 + 29) 1 (by omega))
  have e_48 : M_34 (229 + 29) 2 = M_21 (229 + 29) 2 := (f_37 (229 + 29) 2 (by omega))
  have e_49 : M_34 (229 + 29) 3 = M_21 (229 + 29) 3 := (f_37 (229 + 29) 3 (by omega))
  have e_50 : M_34 229 47 = M_21 229 47 := (f_37 229 47 (by omega))
  refine g_iast (n := 39) (q := (M (229 + 29) 3).toNat) hx (aX10_34 (b := 229) (by decide)) (dq tX10_readsLog 25 rfl) rfl (by omega) (by omega) (by omega) rfl (by omega) (by omega) (fun M_51 m_52e m_52 => ?_)
  have g_53 : Nw M_51 := Nw.gen g_43 (by have q39 := m_52 229 39 (by omega); omega) (fun j hj => m_52 _ j (by omega)) (fun v hv => m_52 _ v (by omega)) (fun l hl => m_52 _ l (by omega)) (fun l hl => m_52 _ l (by omega))
  have g_54 : Ty M_51 t9 n9 := Ty.frame g_44 (fun c j hcj => m_52 c j (by omega))
  refine g_aload_n (n := 40) hx 1 (dq tX10_readsLog 26 rfl) rfl rfl ?_
  refine g_getR (n := 43) hx glX10_112 (sX10_35 (by decide)) (dq tX10_readsLog 27 rfl) rfl ?_
  refine g_iload_n (n := 44) hx 0 (dq tX10_readsLog 28 rfl) rfl rfl ?_
  refine g_aload_n (n := 45) hx 1 (dq tX10_readsLog 29 rfl) rfl rfl ?_
  refine g_iconst (n := 46) hx (dq tX10_readsLog 30 rfl) rfl ?_
  refine g_bipush (n := 48) hx (dq tX10_readsLog 31 rfl) rfl (by decide) ?_
  have e_55 : M_51 229 37 = M_34 229 37 := (m_52 229 37 (by omega))
  have e_56 : M_51 229 38 = M_34 229 38 := (m_52 229 38 (by omega))
  have e_57 : M_51 229 39 = M_34 229 39 := (m_52 229 39 (by omega))
  have e_58 : M_51 (229 + 29) 0 = M_34 (229 + 29) 0 := (m_52 (229 + 29) 0 (by omega))
  have e_59 : M_51 (229 + 29) 1 = M_34 (229 + 29) 1 := (m_52 (229 + 29) 1 (by omega))
  have e_60 : M_51 (229 + 29) 2 = M_34 (229 + 29) 2 := (m_52 (229 + 29) 2 (by omega))
  have e_61 : M_51 (229 + 29) 3 = M_34 (229 + 29) 3 := (m_52 (229 + 29) 3 (by omega))
  have e_62 : M_51 229 47 = M_34 229 47 := (m_52 229 47 (by omega))
  refine g_callVi (n := 51) (As := [vI 1, vI 99]) (rest := [vI (M (229 + 29) 3), aR Γ (229 + 35)]) hx (ctX10_amount3 Γ M_51 1 (by decide) (by decide) 99 (by decide) (by decide) t9 n9 ((M_34 229 38).toNat) (by omega) g_54) mlX10_347 (obX10 (by decide)) (dq tX10_readsLog 32 rfl) rfl (Nat.le_of_ble_eq_true rfl) (Nat.le_of_ble_eq_true rfl) (Nat.le_of_ble_eq_true rfl) rfl (fun z_63 M_64 h_65 p_66 => ?_)
  obtain ⟨f_67, h_68, h_69, h_70, h_71, h_72⟩ := p_66
  have g_73 : Nw M_64 := Nw.gen g_53 (by omega) (fun j hj => f_67 _ j (by omega)) (fun v hv => f_67 _ v (by omega)) (fun l hl => f_67 _ l (by omega)) (fun l hl => f_67 _ l (by omega))
  have g_74 : Ty M_64 t9 n9 := Ty.frame g_54 (fun c j hcj => f_67 c j (by omega))
  have e_75 : M_64 229 37 = M_51 229 37 := (f_67 229 37 (by omega))
  have e_76 : M_64 (229 + 29) 0 = M_51 (229 + 29) 0 := (f_67 (229 + 29) 0 (by omega))
  have e_77 : M_64 (229 + 29) 1 = M_51 (229 + 29) 1 := (f_67 (229 + 29) 1 (by omega))
  have e_78 : M_64 (229 + 29) 2 = M_51 (229 + 29) 2 := (f_67 (229 + 29) 2 (by omega))
  have e_79 : M_64 (229 + 29) 3 = M_51 (229 + 29) 3 := (f_67 (229 + 29) 3 (by omega))
  have e_80 : M_64 229 47 = M_51 229 47 := (f_67 229 47 (by omega))
  refine g_iast (n := 52) (q := (M (229 + 29) 3).toNat) hx (aX10_35 (b := 229) (by decide)) (dq tX10_readsLog 33 rfl) rfl (by omega) (by omega) (by omega) rfl (by omega) (by omega) (fun M_81 m_82e m_82 => ?_)
  have g_83 : Nw M_81 := Nw.gen g_73 (by have q39 := m_82 229 39 (by omega); omega) (fun j hj => m_82 _ j (by omega)) (fun v hv => m_82 _ v (by omega)) (fun l hl => m_82 _ l (by omega)) (fun l hl => m_82 _ l (by omega))
  have g_84 : Ty M_81 t9 n9 := Ty.frame g_74 (fun c j hcj => m_82 c j (by omega))
  refine g_aload_n (n := 53) hx 1 (dq tX10_readsLog 34 rfl) rfl rfl ?_
  refine g_getR (n := 56) hx glX10_115 (sX10_36 (by decide)) (dq tX10_readsLog 35 rfl) rfl ?_
  refine g_iload_n (n := 57) hx 0 (dq tX10_readsLog 36 rfl) rfl rfl ?_
  refine g_aload_n (n := 58) hx 1 (dq tX10_readsLog 37 rfl) rfl rfl ?_
  refine g_iconst (n := 59) hx (dq tX10_readsLog 38 rfl) rfl ?_
  refine g_aload_n (n := 60) hx 1 (dq tX10_readsLog 39 rfl) rfl rfl ?_
  refine g_getR (n := 63) hx glX10_94 (sX10_29 (by decide)) (dq tX10_readsLog 40 rfl) rfl ?_
  refine g_iconst (n := 64) hx (dq tX10_readsLog 41 rfl) rfl ?_
  refine g_ialdX (n := 65) (q := 1) hx (aX10_29 (b := 229) (by decide)) (dq tX10_readsLog 42 rfl) rfl (by decide) (by decide) (by decide) rfl (fun h_85l h_85u => ?_)
  have h_85l : 0 ≤ M_81 (229 + 29) 1 := h_85l
  have h_85u : M_81 (229 + 29) 1 ≤ 6 := h_85u
  have e_86 : M_81 (229 + 29) 1 = M_64 (229 + 29) 1 := (m_82 (229 + 29) 1 (by omega))
  refine g_iconst (n := 66) hx (dq tX10_readsLog 43 rfl) rfl ?_
  refine g_isub (n := 67) hx (dq tX10_readsLog 44 rfl) rfl ?_
  have e_87 : M_81 229 37 = M_64 229 37 := (m_82 229 37 (by omega))
  have e_88 : M_81 229 38 = M_64 229 38 := (m_82 229 38 (by omega))
  have e_89 : M_81 229 39 = M_64 229 39 := (m_82 229 39 (by omega))
  have e_90 : M_81 (229 + 29) 0 = M_64 (229 + 29) 0 := (m_82 (229 + 29) 0 (by omega))
  have e_91 : M_81 (229 + 29) 2 = M_64 (229 + 29) 2 := (m_82 (229 + 29) 2 (by omega))
  have e_92 : M_81 (229 + 29) 3 = M_64 (229 + 29) 3 := (m_82 (229 + 29) 3 (by omega))
  have e_93 : M_81 229 47 = M_64 229 47 := (m_82 229 47 (by omega))
  refine g_callVi (n := 70) (As := [vI 0, vI ((M_81 (229 + 29) 1) - 1)]) (rest := [vI (M (229 + 29) 3), aR Γ (229 + 36)]) hx (ctX10_amount3 Γ M_81 0 (by decide) (by decide) ((M_81 (229 + 29) 1) - 1) (by omega) (by omega) t9 n9 ((M_64 229 38).toNat) (by omega) g_84) mlX10_347 (obX10 (by decide)) (dq tX10_readsLog 45 rfl) rfl (Nat.le_of_ble_eq_true rfl) (Nat.le_of_ble_eq_true rfl) (Nat.le_of_ble_eq_true rfl) rfl (fun z_94 M_95 h_96 p_97 => ?_)
  obtain ⟨f_98, h_99, h_100, h_101, h_102, h_103⟩ := p_97
  have g_104 : Nw M_95 := Nw.gen g_83 (by omega) (fun j hj => f_98 _ j (by omega)) (fun v hv => f_98 _ v (by omega)) (fun l hl => f_98 _ l (by omega)) (fun l hl => f_98 _ l (by omega))
  have g_105 : Ty M_95 t9 n9 := Ty.frame g_84 (fun c j hcj => f_98 c j (by omega))
  have e_106 : M_95 229 37 = M_81 229 37 := (f_98 229 37 (by omega))
  have e_107 : M_95 (229 + 29) 0 = M_81 (229 + 29) 0 := (f_98 (229 + 29) 0 (by omega))
  have e_108 : M_95 (229 + 29) 1 = M_81 (229 + 29) 1 := (f_98 (229 + 29) 1 (by omega))
  have e_109 : M_95 (229 + 29) 2 = M_81 (229 + 29) 2 := (f_98 (229 + 29) 2 (by omega))
  have e_110 : M_95 (229 + 29) 3 = M_81 (229 + 29) 3 := (f_98 (229 + 29) 3 (by omega))
  have e_111 : M_95 229 47 = M_81 229 47 := (f_98 229 47 (by omega))
  refine g_iast (n := 71) (q := (M (229 + 29) 3).toNat) hx (aX10_36 (b := 229) (by decide)) (dq tX10_readsLog 46 rfl) rfl (by omega) (by omega) (by omega) rfl (by omega) (by omega) (fun M_112 m_113e m_113 => ?_)
  have g_114 : Nw M_112 := Nw.gen g_104 (by have q39 := m_113 229 39 (by omega); omega) (fun j hj => m_113 _ j (by omega)) (fun v hv => m_113 _ v (by omega)) (fun l hl => m_113 _ l (by omega)) (fun l hl => m_113 _ l (by omega))
  have g_115 : Ty M_112 t9 n9 := Ty.frame g_105 (fun c j hcj => m_113 c j (by omega))
  refine g_aload_n (n := 72) hx 1 (dq tX10_readsLog 47 rfl) rfl rfl ?_
  refine g_getR (n := 75) hx glX10_94 (sX10_29 (by decide)) (dq tX10_readsLog 48 rfl) rfl ?_
  refine g_iconst (n := 76) hx (dq tX10_readsLog 49 rfl) rfl ?_
  refine g_dup2 (n := 77) hx (dq tX10_readsLog 50 rfl) rfl rfl rfl ?_
  refine g_ialdX (n := 78) (q := 3) hx (aX10_29 (b := 229) (by decide)) (dq tX10_readsLog 51 rfl) rfl (by decide) (by decide) (by decide) rfl (fun h_116l h_116u => ?_)
  have h_116l : 0 ≤ M_112 (229 + 29) 3 := h_116l
  have h_116u : M_112 (229 + 29) 3 ≤ 12 := h_116u
  have e_117 : M_112 (229 + 29) 3 = M_95 (229 + 29) 3 := (m_113 (229 + 29) 3 (by omega))
  refine g_iconst (n := 79) hx (dq tX10_readsLog 52 rfl) rfl ?_
  refine g_iadd (n := 80) hx (dq tX10_readsLog 53 rfl) rfl ?_
  have e_118 : M_112 229 37 = M_95 229 37 := (m_113 229 37 (by omega))
  have e_119 : M_112 229 38 = M_95 229 38 := (m_113 229 38 (by omega))
  have e_120 : M_112 229 39 = M_95 229 39 := (m_113 229 39 (by omega))
  have e_121 : M_112 (229 + 29) 0 = M_95 (229 + 29) 0 := (m_113 (229 + 29) 0 (by omega))
  have e_122 : M_112 (229 + 29) 1 = M_95 (229 + 29) 1 := (m_113 (229 + 29) 1 (by omega))
  have e_123 : M_112 (229 + 29) 2 = M_95 (229 + 29) 2 := (m_113 (229 + 29) 2 (by omega))
  have e_124 : M_112 229 47 = M_95 229 47 := (m_113 229 47 (by omega))
  refine g_iastX (n := 81) (q := 3) hx (aX10_29 (b := 229) (by decide)) (dq tX10_readsLog 54 rfl) rfl (by decide) (by decide) (by decide) rfl (show 0 ≤ (M_112 (229 + 29) 3) + 1 by omega) (show (M_112 (229 + 29) 3) + 1 ≤ 12 by omega) (fun M_125 m_126e m_126 => ?_)
  have g_127 : Nw M_125 := Nw.log (i := (M (229 + 29) 3).toNat) g_114 m_126e (by omega) (by omega) (fun q => by have w1 : M_112 (229 + 33) ((M (229 + 29) 3).toNat) = z_3 := (((((((m_113 (229 + 33) ((M (229 + 29) 3).toNat) (by omega)).trans (f_98 (229 + 33) ((M (229 + 29) 3).toNat) (by omega))).trans (m_82 (229 + 33) ((M (229 + 29) 3).toNat) (by omega))).trans (f_67 (229 + 33) ((M (229 + 29) 3).toNat) (by omega))).trans (m_52 (229 + 33) ((M (229 + 29) 3).toNat) (by omega))).trans (f_37 (229 + 33) ((M (229 + 29) 3).toNat) (by omega)))).trans m_22e; have w2 : M_112 (229 + 36) ((M (229 + 29) 3).toNat) = z_94 := (rfl).trans m_113e; omega) m_126
  have g_128 : Ty M_125 t9 n9 := Ty.frame g_115 (fun c j hcj => m_126 c j (by omega))
  have e_129 : M_125 229 37 = M_112 229 37 := (m_126 229 37 (by omega))
  have e_130 : M_125 229 38 = M_112 229 38 := (m_126 229 38 (by omega))
  have e_131 : M_125 229 39 = M_112 229 39 := (m_126 229 39 (by omega))
  have e_132 : M_125 (229 + 29) 0 = M_112 (229 + 29) 0 := (m_126 (229 + 29) 0 (by omega))
  have e_133 : M_125 (229 + 29) 1 = M_112 (229 + 29) 1 := (m_126 (229 + 29) 1 (by omega))
  have e_134 : M_125 (229 + 29) 2 = M_112 (229 + 29) 2 := (m_126 (229 + 29) 2 (by omega))
  have e_135 : M_125 229 47 = M_112 229 47 := (m_126 229 47 (by omega))
  exact g_vret hx hr (dq tX10_readsLog 55 rfl) ⟨(fun u_ v_ huv_ => (((((((((m_126 u_ v_ (by omega)).trans (m_113 u_ v_ (by omega))).trans (f_98 u_ v_ (by omega))).trans (m_82 u_ v_ (by omega))).trans (f_67 u_ v_ (by omega))).trans (m_52 u_ v_ (by omega))).trans (f_37 u_ v_ (by omega))).trans (m_22 u_ v_ (by omega))).trans (f_7 u_ v_ (by omega)))), g_127, (by omega), (by omega), (by omega), (lg_4 h_11 h_41 h_71 h_102 (by omega) (sk_eq (by omega)) (by omega) (sk_eq (by omega)) (by omega) (sk_eq (by omega)) (by omega) (sk_eq (by omega)) (by omega) (by omega)), (by omega)⟩

abbrev qctX10_riverPart3 (M : zM) (k : Int) (t9 : Nat → Int) (n9 : Nat) (a9 : Nat) (M' : zM) : Prop := (∀ u_ v_, (u_ ≠ 229 ∨ v_ ≠ 38) ∧ (u_ ≠ 229 ∨ v_ ≠ 39) ∧ (u_ ≠ 229 ∨ v_ ≠ 47) ∧ (u_ < 229 + 29 ∨ 229 + 37 ≤ u_) → M' u_ v_ = M u_ v_) ∧ Nw M' ∧ (M 229 38 ≤ M' 229 38) ∧ (M' 229 38 = M 229 38 ∨ M' 229 38 ≤ M 229 37) ∧ (oa (M' 229 39) (sk t9 n9 (M' 229 38).toNat) = Rp9 t9 n9 k (M (229 + 29) 0) (M (229 + 29) 1) (M (229 + 29) 2) (sk t9 n9 a9)) ∧ (M' 229 39 = 0 → sr M' = up9 (nv t9 (sk t9 n9 a9) (stp t9 n9 (sk t9 n9 a9) - (sk t9 n9 a9))) k (sr M))
set_option maxHeartbeats 4000000 in
set_option maxRecDepth 100000 in
theorem ctX10_riverPart3 (Γ : Gam) (M : zM) (k : Int) (hkl : 0 ≤ k) (hku : k ≤ 5) (t9 : Nat → Int) (n9 : Nat) (a9 : Nat) (pre0 : M 229 39 = 0) (pre1 : k = 1 → M (229 + 29) 1 ≤ 5) (pre2 : k = 3 → M (229 + 29) 2 ≤ 3) (pre3 : k = 4 → M (229 + 29) 3 ≤ 11) (pre4 : M 229 38 = a9) (ex0 : Ty M t9 n9) (nw : Nw M) : CtV Γ yX10_riverPart cX10_riverPart 4 none 5 113 [aR Γ 229, vI k] M (qctX10_riverPart3 M k t9 n9 a9) := by
  refine met_v (by decide) (Nat.le_of_ble_eq_true rfl) (fun x hx hr => ?_)
  show G Γ x 4 (QV Γ x (qctX10_riverPart3 M k t9 n9 a9)) M 0 [(0, aR Γ 229), (1, vI k)] []
  refine g_iv (fun hI0 => ?_)
  have hI_37 : (0 : Int) ≤ M 229 37 ∧ M 229 37 ≤ 400 := hI0 229 37
  have hI_38 : (0 : Int) ≤ M 229 38 ∧ M 229 38 ≤ 402 := hI0 229 38
  have hI_45 : (0 : Int) ≤ M 229 45 ∧ M 229 45 ≤ 402 := hI0 229 45
  have hI_42 : (0 : Int) ≤ M 229 42 ∧ M 229 42 ≤ 300 := hI0 229 42
  have hI_39 : (0 : Int) ≤ M 229 39 ∧ M 229 39 ≤ 100000 := hI0 229 39
  have hI_40 : (0 : Int) ≤ M 229 40 ∧ M 229 40 ≤ 5 := hI0 229 40
  have hI_41 : (0 : Int) ≤ M 229 41 ∧ M 229 41 ≤ 6 := hI0 229 41
  clear hI0
  have hty_n := ex0.1
  refine g_iload_n (n := 1) hx 1 (dq tX10_riverPart 0 rfl) rfl rfl ?_
  by_cases c_1 : k = 0
  · refine g_swI (t := 36) hx (dq tX10_riverPart 1 rfl) c_1 (by decide) (by decide) rfl (by decide) ?_
    refine g_aload_n (n := 37) hx 0 (dq tX10_riverPart 2 rfl) rfl rfl ?_
    refine g_getR (n := 40) hx glX10_94 (sX10_29 (by decide)) (dq tX10_riverPart 3 rfl) rfl ?_
    refine g_iconst (n := 41) hx (dq tX10_riverPart 4 rfl) rfl ?_
    refine g_aload_n (n := 42) hx 0 (dq tX10_riverPart 5 rfl) rfl rfl ?_
    refine g_iconst (n := 43) hx (dq tX10_riverPart 6 rfl) rfl ?_
    refine g_bipush (n := 45) hx (dq tX10_riverPart 7 rfl) rfl (by decide) ?_
    refine g_callVi (n := 48) (As := [vI 2, vI 9]) (rest := [vI 0, aR Γ (229 + 29)]) hx (ctX10_amount3 Γ M 2 (by decide) (by decide) 9 (by decide) (by decide) t9 n9 a9 (by omega) ex0) mlX10_347 (obX10 (by decide)) (dq tX10_riverPart 8 rfl) rfl (Nat.le_of_ble_eq_true rfl) (Nat.le_of_ble_eq_true rfl) (Nat.le_of_ble_eq_true rfl) rfl (fun z_2 M_3 h_4 p_5 => ?_)
    obtain ⟨f_6, h_7, h_8, h_9, h_10, h_11⟩ := p_5
    have g_12 : Nw M_3 := Nw.gen nw (by omega) (fun j hj => f_6 _ j (by omega)) (fun v hv => f_6 _ v (by omega)) (fun l hl => f_6 _ l (by omega)) (fun l hl => f_6 _ l (by omega))
    have g_13 : Ty M_3 t9 n9 := Ty.frame ex0 (fun c j hcj => f_6 c j (by omega))
    have e_14 : M_3 229 37 = M 229 37 := (f_6 229 37 (by omega))
    have e_15 : M_3 (229 + 29) 0 = M (229 + 29) 0 := (f_6 (229 + 29) 0 (by omega))
    have e_16 : M_3 (229 + 29) 1 = M (229 + 29) 1 := (f_6 (229 + 29) 1 (by omega))
    have e_17 : M_3 (229 + 29) 2 = M (229 + 29) 2 := (f_6 (229 + 29) 2 (by omega))
    have e_18 : M_3 (229 + 29) 3 = M (229 + 29) 3 := (f_6 (229 + 29) 3 (by omega))
    have e_19 : M_3 229 47 = M 229 47 := (f_6 229 47 (by omega))
    refine g_iastX (n := 49) (q := 0) hx (aX10_29 (b := 229) (by decide)) (dq tX10_riverPart 9 rfl) rfl (by decide) (by decide) (by decide) rfl (show (-2147483648) ≤ z_2 by omega) (show z_2 ≤ 2147483647 by omega) (fun M_20 m_21e m_21 => ?_)
    have g_22 : Nw M_20 := Nw.bends g_12 m_21e (fun q => by omega) m_21
    have g_23 : Ty M_20 t9 n9 := Ty.frame g_13 (fun c j hcj => m_21 c j (by omega))
    refine g_goto (n := 184) hx (dq tX10_riverPart 10 rfl) (by decide) ?_
    have e_24 : M_20 229 37 = M_3 229 37 := (m_21 229 37 (by omega))
    have e_25 : M_20 229 38 = M_3 229 38 := (m_21 229 38 (by omega))
    have e_26 : M_20 229 39 = M_3 229 39 := (m_21 229 39 (by omega))
    have e_27 : M_20 (229 + 29) 1 = M_3 (229 + 29) 1 := (m_21 (229 + 29) 1 (by omega))
    have e_28 : M_20 (229 + 29) 2 = M_3 (229 + 29) 2 := (m_21 (229 + 29) 2 (by omega))
    have e_29 : M_20 (229 + 29) 3 = M_3 (229 + 29) 3 := (m_21 (229 + 29) 3 (by omega))
    have e_30 : M_20 229 47 = M_3 229 47 := (m_21 229 47 (by omega))
    exact g_vret hx hr (dq tX10_riverPart 94 rfl) ⟨(fun u_ v_ huv_ => ((m_21 u_ v_ (by omega)).trans (f_6 u_ v_ (by omega)))), g_22, (by omega), (by omega), (rp_0 (by omega) (by omega) h_10 (by omega) (sk_eq (by omega))), (fun h0 => up_eq (by omega) (by omega) (by omega) (by omega) (by omega))⟩
  by_cases c_31 : k = 1
  · refine g_swI (t := 52) hx (dq tX10_riverPart 1 rfl) c_31 (by decide) (by decide) rfl (by decide) ?_
    refine g_aload_n (n := 53) hx 0 (dq tX10_riverPart 11 rfl) rfl rfl ?_
    refine g_getR (n := 56) hx glX10_103 (sX10_32 (by decide)) (dq tX10_riverPart 12 rfl) rfl ?_
    refine g_aload_n (n := 57) hx 0 (dq tX10_riverPart 13 rfl) rfl rfl ?_
    refine g_getR (n := 60) hx glX10_94 (sX10_29 (by decide)) (dq tX10_riverPart 14 rfl) rfl ?_
    refine g_iconst (n := 61) hx (dq tX10_riverPart 15 rfl) rfl ?_
    refine g_ialdX (n := 62) (q := 1) hx (aX10_29 (b := 229) (by decide)) (dq tX10_riverPart 16 rfl) rfl (by decide) (by decide) (by decide) rfl (fun h_32l h_32u => ?_)
    have h_32l : 0 ≤ M (229 + 29) 1 := h_32l
    have h_32u : M (229 + 29) 1 ≤ 6 := h_32u
    refine g_aload_n (n := 63) hx 0 (dq tX10_riverPart 17 rfl) rfl rfl ?_
    refine g_iconst (n := 64) hx (dq tX10_riverPart 18 rfl) rfl ?_
    refine g_aload_n (n := 65) hx 0 (dq tX10_riverPart 19 rfl) rfl rfl ?_
    refine g_getR (n := 68) hx glX10_94 (sX10_29 (by decide)) (dq tX10_riverPart 20 rfl) rfl ?_
    refine g_iconst (n := 69) hx (dq tX10_riverPart 21 rfl) rfl ?_
    refine g_ialdX (n := 70) (q := 0) hx (aX10_29 (b := 229) (by decide)) (dq tX10_riverPart 22 rfl) rfl (by decide) (by decide) (by decide) rfl (fun h_33l h_33u => ?_)
    have h_33l : (-2147483648) ≤ M (229 + 29) 0 := h_33l
    have h_33u : M (229 + 29) 0 ≤ 2147483647 := h_33u
    have h_34 := Nw.n0 nw (by omega)
    refine g_iconst (n := 71) hx (dq tX10_riverPart 23 rfl) rfl ?_
    refine g_isub (n := 72) hx (dq tX10_riverPart 24 rfl) rfl ?_
    refine g_callVi (n := 75) (As := [vI 0, vI ((M (229 + 29) 0) - 1)]) (rest := [vI (M (229 + 29) 1), aR Γ (229 + 32)]) hx (ctX10_amount3 Γ M 0 (by decide) (by decide) ((M (229 + 29) 0) - 1) (by omega) (by omega) t9 n9 a9 (by omega) ex0) mlX10_347 (obX10 (by decide)) (dq tX10_riverPart 25 rfl) rfl (Nat.le_of_ble_eq_true rfl) (Nat.le_of_ble_eq_true rfl) (Nat.le_of_ble_eq_true rfl) rfl (fun z_35 M_36 h_37 p_38 => ?_)
    obtain ⟨f_39, h_40, h_41, h_42, h_43, h_44⟩ := p_38
    have g_45 : Nw M_36 := Nw.gen nw (by omega) (fun j hj => f_39 _ j (by omega)) (fun v hv => f_39 _ v (by omega)) (fun l hl => f_39 _ l (by omega)) (fun l hl => f_39 _ l (by omega))
    have g_46 : Ty M_36 t9 n9 := Ty.frame ex0 (fun c j hcj => f_39 c j (by omega))
    have e_47 : M_36 229 37 = M 229 37 := (f_39 229 37 (by omega))
    have e_48 : M_36 (229 + 29) 0 = M (229 + 29) 0 := (f_39 (229 + 29) 0 (by omega))
    have e_49 : M_36 (229 + 29) 1 = M (229 + 29) 1 := (f_39 (229 + 29) 1 (by omega))
    have e_50 : M_36 (229 + 29) 2 = M (229 + 29) 2 := (f_39 (229 + 29) 2 (by omega))
    have e_51 : M_36 (229 + 29) 3 = M (229 + 29) 3 := (f_39 (229 + 29) 3 (by omega))
    have e_52 : M_36 229 47 = M 229 47 := (f_39 229 47 (by omega))
    refine g_iast (n := 76) (q := (M (229 + 29) 1).toNat) hx (aX10_32 (b := 229) (by decide)) (dq tX10_riverPart 26 rfl) rfl (by omega) (by omega) (by omega) rfl (by omega) (by omega) (fun M_53 m_54e m_54 => ?_)
    have g_55 : Nw M_53 := Nw.gen g_45 (by have q39 := m_54 229 39 (by omega); omega) (fun j hj => m_54 _ j (by omega)) (fun v hv => m_54 _ v (by omega)) (fun l hl => m_54 _ l (by omega)) (fun l hl => m_54 _ l (by omega))
    have g_56 : Ty M_53 t9 n9 := Ty.frame g_46 (fun c j hcj => m_54 c j (by omega))
    refine g_aload_n (n := 77) hx 0 (dq tX10_riverPart 27 rfl) rfl rfl ?_
    refine g_getR (n := 80) hx glX10_94 (sX10_29 (by decide)) (dq tX10_riverPart 28 rfl) rfl ?_
    refine g_iconst (n := 81) hx (dq tX10_riverPart 29 rfl) rfl ?_
    refine g_dup2 (n := 82) hx (dq tX10_riverPart 30 rfl) rfl rfl rfl ?_
    refine g_ialdX (n := 83) (q := 1) hx (aX10_29 (b := 229) (by decide)) (dq tX10_riverPart 31 rfl) rfl (by decide) (by decide) (by decide) rfl (fun h_57l h_57u => ?_)
    have h_57l : 0 ≤ M_53 (229 + 29) 1 := h_57l
    have h_57u : M_53 (229 + 29) 1 ≤ 6 := h_57u
    have e_58 : M_53 (229 + 29) 1 = M_36 (229 + 29) 1 := (m_54 (229 + 29) 1 (by omega))
    refine g_iconst (n := 84) hx (dq tX10_riverPart 32 rfl) rfl ?_
    refine g_iadd (n := 85) hx (dq tX10_riverPart 33 rfl) rfl ?_
    have e_59 : M_53 229 37 = M_36 229 37 := (m_54 229 37 (by omega))
    have e_60 : M_53 229 38 = M_36 229 38 := (m_54 229 38 (by omega))
    have e_61 : M_53 229 39 = M_36 229 39 := (m_54 229 39 (by omega))
    have e_62 : M_53 (229 + 29) 0 = M_36 (229 + 29) 0 := (m_54 (229 + 29) 0 (by omega))
    have e_63 : M_53 (229 + 29) 2 = M_36 (229 + 29) 2 := (m_54 (229 + 29) 2 (by omega))
    have e_64 : M_53 (229 + 29) 3 = M_36 (229 + 29) 3 := (m_54 (229 + 29) 3 (by omega))
    have e_65 : M_53 229 47 = M_36 229 47 := (m_54 229 47 (by omega))
    refine g_iastX (n := 86) (q := 1) hx (aX10_29 (b := 229) (by decide)) (dq tX10_riverPart 34 rfl) rfl (by decide) (by decide) (by decide) rfl (show 0 ≤ (M_53 (229 + 29) 1) + 1 by omega) (show (M_53 (229 + 29) 1) + 1 ≤ 6 by omega) (fun M_66 m_67e m_67 => ?_)
    have g_68 : Nw M_66 := Nw.vil (i := (M (229 + 29) 1).toNat) g_55 m_67e (by omega) (by omega) (fun q => by have w1 : M_53 (229 + 32) ((M (229 + 29) 1).toNat) = z_35 := (rfl).trans m_54e; omega) m_67
    have g_69 : Ty M_66 t9 n9 := Ty.frame g_56 (fun c j hcj => m_67 c j (by omega))
    refine g_goto (n := 184) hx (dq tX10_riverPart 35 rfl) (by decide) ?_
    have e_70 : M_66 229 37 = M_53 229 37 := (m_67 229 37 (by omega))
    have e_71 : M_66 229 38 = M_53 229 38 := (m_67 229 38 (by omega))
    have e_72 : M_66 229 39 = M_53 229 39 := (m_67 229 39 (by omega))
    have e_73 : M_66 (229 + 29) 0 = M_53 (229 + 29) 0 := (m_67 (229 + 29) 0 (by omega))
    have e_74 : M_66 (229 + 29) 2 = M_53 (229 + 29) 2 := (m_67 (229 + 29) 2 (by omega))
    have e_75 : M_66 (229 + 29) 3 = M_53 (229 + 29) 3 := (m_67 (229 + 29) 3 (by omega))
    have e_76 : M_66 229 47 = M_53 229 47 := (m_67 229 47 (by omega))
    exact g_vret hx hr (dq tX10_riverPart 94 rfl) ⟨(fun u_ v_ huv_ => (((m_67 u_ v_ (by omega)).trans (m_54 u_ v_ (by omega))).trans (f_39 u_ v_ (by omega)))), g_68, (by omega), (by omega), (rp_1 (by omega) (by omega) h_43 (by omega) (sk_eq (by omega)) (by omega)), (fun h0 => up_eq (by omega) (by omega) (by omega) (by omega) (by omega))⟩
  by_cases c_77 : k = 2
  · refine g_swI (t := 89) hx (dq tX10_riverPart 1 rfl) c_77 (by decide) (by decide) rfl (by decide) ?_
    refine g_aload_n (n := 90) hx 0 (dq tX10_riverPart 36 rfl) rfl rfl ?_
    refine g_iconst (n := 91) hx (dq tX10_riverPart 37 rfl) rfl ?_
    refine g_aload_n (n := 92) hx 0 (dq tX10_riverPart 38 rfl) rfl rfl ?_
    refine g_getR (n := 95) hx glX10_94 (sX10_29 (by decide)) (dq tX10_riverPart 39 rfl) rfl ?_
    refine g_iconst (n := 96) hx (dq tX10_riverPart 40 rfl) rfl ?_
    refine g_ialdX (n := 97) (q := 0) hx (aX10_29 (b := 229) (by decide)) (dq tX10_riverPart 41 rfl) rfl (by decide) (by decide) (by decide) rfl (fun h_78l h_78u => ?_)
    have h_78l : (-2147483648) ≤ M (229 + 29) 0 := h_78l
    have h_78u : M (229 + 29) 0 ≤ 2147483647 := h_78u
    have h_79 := Nw.n0 nw (by omega)
    refine g_iconst (n := 98) hx (dq tX10_riverPart 42 rfl) rfl ?_
    refine g_isub (n := 99) hx (dq tX10_riverPart 43 rfl) rfl ?_
    refine g_callVi (n := 102) (As := [vI 0, vI ((M (229 + 29) 0) - 1)]) (rest := []) hx (ctX10_amount3 Γ M 0 (by decide) (by decide) ((M (229 + 29) 0) - 1) (by omega) (by omega) t9 n9 a9 (by omega) ex0) mlX10_347 (obX10 (by decide)) (dq tX10_riverPart 44 rfl) rfl (Nat.le_of_ble_eq_true rfl) (Nat.le_of_ble_eq_true rfl) (Nat.le_of_ble_eq_true rfl) rfl (fun z_80 M_81 h_82 p_83 => ?_)
    obtain ⟨f_84, h_85, h_86, h_87, h_88, h_89⟩ := p_83
    have g_90 : Nw M_81 := Nw.gen nw (by omega) (fun j hj => f_84 _ j (by omega)) (fun v hv => f_84 _ v (by omega)) (fun l hl => f_84 _ l (by omega)) (fun l hl => f_84 _ l (by omega))
    have g_91 : Ty M_81 t9 n9 := Ty.frame ex0 (fun c j hcj => f_84 c j (by omega))
    refine g_istore_n (n := 103) (lv' := [(2, vI z_80), (0, aR Γ 229), (1, vI k)]) hx (dq tX10_riverPart 45 rfl) (by decide) rfl rfl ?_
    refine g_aload_n (n := 104) hx 1 (dq tX10_riverPart 46 rfl) rfl rfl ?_
    refine g_iconst (n := 105) hx (dq tX10_riverPart 47 rfl) rfl ?_
    refine g_bipush (n := 107) hx (dq tX10_riverPart 48 rfl) rfl (by decide) ?_
    have e_92 : M_81 229 37 = M 229 37 := (f_84 229 37 (by omega))
    have e_93 : M_81 (229 + 29) 0 = M (229 + 29) 0 := (f_84 (229 + 29) 0 (by omega))
    have e_94 : M_81 (229 + 29) 1 = M (229 + 29) 1 := (f_84 (229 + 29) 1 (by omega))
    have e_95 : M_81 (229 + 29) 2 = M (229 + 29) 2 := (f_84 (229 + 29) 2 (by omega))
    have e_96 : M_81 (229 + 29) 3 = M (229 + 29) 3 := (f_84 (229 + 29) 3 (by omega))
    have e_97 : M_81 229 47 = M 229 47 := (f_84 229 47 (by omega))
    refine g_callVi (n := 110) (As := [vI 1, vI 9]) (rest := []) hx (ctX10_amount3 Γ M_81 1 (by decide) (by decide) 9 (by decide) (by decide) t9 n9 ((M_81 229 38).toNat) (by omega) g_91) mlX10_347 (obX10 (by decide)) (dq tX10_riverPart 49 rfl) rfl (Nat.le_of_ble_eq_true rfl) (Nat.le_of_ble_eq_true rfl) (Nat.le_of_ble_eq_true rfl) rfl (fun z_98 M_99 h_100 p_101 => ?_)
    obtain ⟨f_102, h_103, h_104, h_105, h_106, h_107⟩ := p_101
    have g_108 : Nw M_99 := Nw.gen g_90 (by omega) (fun j hj => f_102 _ j (by omega)) (fun v hv => f_102 _ v (by omega)) (fun l hl => f_102 _ l (by omega)) (fun l hl => f_102 _ l (by omega))
    have g_109 : Ty M_99 t9 n9 := Ty.frame g_91 (fun c j hcj => f_102 c j (by omega))
    refine g_istore_n (n := 111) (lv' := [(3, vI z_98), (2, vI z_80), (0, aR Γ 229), (1, vI k)]) hx (dq tX10_riverPart 50 rfl) (by decide) rfl rfl ?_
    refine g_aload_n (n := 112) hx 2 (dq tX10_riverPart 51 rfl) rfl rfl ?_
    refine g_getI (n := 115) hx glX10_246 (sX10_39 (by decide)) (dq tX10_riverPart 52 rfl) rfl (fun h_110l h_110u => ?_)
    refine g_if_ne (n := 118) (t := 184) hx (dq tX10_riverPart 53 rfl) (by decide) rfl (zrI h_110l h_110u (by decide) (by decide)) (fun c_111 => ?_) (fun c_111 => ?_)
    · have e_112 : M_99 229 37 = M_81 229 37 := (f_102 229 37 (by omega))
      have e_113 : M_99 (229 + 29) 0 = M_81 (229 + 29) 0 := (f_102 (229 + 29) 0 (by omega))
      have e_114 : M_99 (229 + 29) 1 = M_81 (229 + 29) 1 := (f_102 (229 + 29) 1 (by omega))
      have e_115 : M_99 (229 + 29) 2 = M_81 (229 + 29) 2 := (f_102 (229 + 29) 2 (by omega))
      have e_116 : M_99 (229 + 29) 3 = M_81 (229 + 29) 3 := (f_102 (229 + 29) 3 (by omega))
      have e_117 : M_99 229 47 = M_81 229 47 := (f_102 229 47 (by omega))
      exact g_vret hx hr (dq tX10_riverPart 94 rfl) ⟨(fun u_ v_ huv_ => ((f_102 u_ v_ (by omega)).trans (f_84 u_ v_ (by omega)))), g_108, (by omega), (by omega), (rp_2 (by omega) (by omega) h_88 h_106 (by omega) (sk_eq (by omega)) (by omega) (sk_eq (by omega)) (by omega)), (fun h0 => up_eq (by omega) (by omega) (by omega) (by omega) (by omega))⟩
    · refine g_aload_n (n := 119) hx 2 (dq tX10_riverPart 54 rfl) rfl rfl ?_
      refine g_getR (n := 122) hx glX10_97 (sX10_30 (by decide)) (dq tX10_riverPart 55 rfl) rfl ?_
      refine g_iload_n (n := 123) hx 1 (dq tX10_riverPart 56 rfl) rfl rfl ?_
      refine g_iload_n (n := 124) hx 0 (dq tX10_riverPart 57 rfl) rfl rfl ?_
      have e_118 : M_99 229 37 = M_81 229 37 := (f_102 229 37 (by omega))
      have e_119 : M_99 (229 + 29) 0 = M_81 (229 + 29) 0 := (f_102 (229 + 29) 0 (by omega))
      have e_120 : M_99 (229 + 29) 1 = M_81 (229 + 29) 1 := (f_102 (229 + 29) 1 (by omega))
      have e_121 : M_99 (229 + 29) 2 = M_81 (229 + 29) 2 := (f_102 (229 + 29) 2 (by omega))
      have e_122 : M_99 (229 + 29) 3 = M_81 (229 + 29) 3 := (f_102 (229 + 29) 3 (by omega))
      have e_123 : M_99 229 47 = M_81 229 47 := (f_102 229 47 (by omega))
      refine g_iast (n := 125) (q := z_80.toNat) hx (aX10_30 (b := 229) (by decide)) (dq tX10_riverPart 58 rfl) rfl (by omega) (by omega) (by omega) rfl (by omega) (by omega) (fun M_124 m_125e m_125 => ?_)
      have g_126 : Nw M_124 := Nw.gen g_108 (by have q39 := m_125 229 39 (by omega); omega) (fun j hj => m_125 _ j (by omega)) (fun v hv => m_125 _ v (by omega)) (fun l hl => m_125 _ l (by omega)) (fun l hl => m_125 _ l (by omega))
      have g_127 : Ty M_124 t9 n9 := Ty.frame g_109 (fun c j hcj => m_125 c j (by omega))
      refine g_goto (n := 184) hx (dq tX10_riverPart 59 rfl) (by decide) ?_
      have e_128 : M_124 229 37 = M_99 229 37 := (m_125 229 37 (by omega))
      have e_129 : M_124 229 38 = M_99 229 38 := (m_125 229 38 (by omega))
      have e_130 : M_124 229 39 = M_99 229 39 := (m_125 229 39 (by omega))
      have e_131 : M_124 (229 + 29) 0 = M_99 (229 + 29) 0 := (m_125 (229 + 29) 0 (by omega))
      have e_132 : M_124 (229 + 29) 1 = M_99 (229 + 29) 1 := (m_125 (229 + 29) 1 (by omega))
      have e_133 : M_124 (229 + 29) 2 = M_99 (229 + 29) 2 := (m_125 (229 + 29) 2 (by omega))
      have e_134 : M_124 (229 + 29) 3 = M_99 (229 + 29) 3 := (m_125 (229 + 29) 3 (by omega))
      have e_135 : M_124 229 47 = M_99 229 47 := (m_125 229 47 (by omega))
      exact g_vret hx hr (dq tX10_riverPart 94 rfl) ⟨(fun u_ v_ huv_ => (((m_125 u_ v_ (by omega)).trans (f_102 u_ v_ (by omega))).trans (f_84 u_ v_ (by omega)))), g_126, (by omega), (by omega), (rp_2 (by omega) (by omega) h_88 h_106 (by omega) (sk_eq (by omega)) (by omega) (sk_eq (by omega)) (by omega)), (fun h0 => up_eq (by omega) (by omega) (by omega) (by omega) (by omega))⟩
  by_cases c_136 : k = 3
  · refine g_swI (t := 128) hx (dq tX10_riverPart 1 rfl) c_136 (by decide) (by decide) rfl (by decide) ?_
    refine g_aload_n (n := 129) hx 0 (dq tX10_riverPart 60 rfl) rfl rfl ?_
    refine g_getR (n := 132) hx glX10_100 (sX10_31 (by decide)) (dq tX10_riverPart 61 rfl) rfl ?_
    refine g_aload_n (n := 133) hx 0 (dq tX10_riverPart 62 rfl) rfl rfl ?_
    refine g_getR (n := 136) hx glX10_94 (sX10_29 (by decide)) (dq tX10_riverPart 63 rfl) rfl ?_
    refine g_iconst (n := 137) hx (dq tX10_riverPart 64 rfl) rfl ?_
    refine g_ialdX (n := 138) (q := 2) hx (aX10_29 (b := 229) (by decide)) (dq tX10_riverPart 65 rfl) rfl (by decide) (by decide) (by decide) rfl (fun h_137l h_137u => ?_)
    have h_137l : 0 ≤ M (229 + 29) 2 := h_137l
    have h_137u : M (229 + 29) 2 ≤ 4 := h_137u
    refine g_aload_n (n := 139) hx 0 (dq tX10_riverPart 66 rfl) rfl rfl ?_
    refine g_iconst (n := 140) hx (dq tX10_riverPart 67 rfl) rfl ?_
    refine g_bipush (n := 142) hx (dq tX10_riverPart 68 rfl) rfl (by decide) ?_
    refine g_callVi (n := 145) (As := [vI 1, vI 99]) (rest := [vI (M (229 + 29) 2), aR Γ (229 + 31)]) hx (ctX10_amount3 Γ M 1 (by decide) (by decide) 99 (by decide) (by decide) t9 n9 a9 (by omega) ex0) mlX10_347 (obX10 (by decide)) (dq tX10_riverPart 69 rfl) rfl (Nat.le_of_ble_eq_true rfl) (Nat.le_of_ble_eq_true rfl) (Nat.le_of_ble_eq_true rfl) rfl (fun z_138 M_139 h_140 p_141 => ?_)
    obtain ⟨f_142, h_143, h_144, h_145, h_146, h_147⟩ := p_141
    have g_148 : Nw M_139 := Nw.gen nw (by omega) (fun j hj => f_142 _ j (by omega)) (fun v hv => f_142 _ v (by omega)) (fun l hl => f_142 _ l (by omega)) (fun l hl => f_142 _ l (by omega))
    have g_149 : Ty M_139 t9 n9 := Ty.frame ex0 (fun c j hcj => f_142 c j (by omega))
    have e_150 : M_139 229 37 = M 229 37 := (f_142 229 37 (by omega))
    have e_151 : M_139 (229 + 29) 0 = M (229 + 29) 0 := (f_142 (229 + 29) 0 (by omega))
    have e_152 : M_139 (229 + 29) 1 = M (229 + 29) 1 := (f_142 (229 + 29) 1 (by omega))
    have e_153 : M_139 (229 + 29) 2 = M (229 + 29) 2 := (f_142 (229 + 29) 2 (by omega))
    have e_154 : M_139 (229 + 29) 3 = M (229 + 29) 3 := (f_142 (229 + 29) 3 (by omega))
    have e_155 : M_139 229 47 = M 229 47 := (f_142 229 47 (by omega))
    refine g_iast (n := 146) (q := (M (229 + 29) 2).toNat) hx (aX10_31 (b := 229) (by decide)) (dq tX10_riverPart 70 rfl) rfl (by omega) (by omega) (by omega) rfl (by omega) (by omega) (fun M_156 m_157e m_157 => ?_)
    have g_158 : Nw M_156 := Nw.gen g_148 (by have q39 := m_157 229 39 (by omega); omega) (fun j hj => m_157 _ j (by omega)) (fun v hv => m_157 _ v (by omega)) (fun l hl => m_157 _ l (by omega)) (fun l hl => m_157 _ l (by omega))
    have g_159 : Ty M_156 t9 n9 := Ty.frame g_149 (fun c j hcj => m_157 c j (by omega))
    refine g_aload_n (n := 147) hx 0 (dq tX10_riverPart 71 rfl) rfl rfl ?_
    refine g_getR (n := 150) hx glX10_94 (sX10_29 (by decide)) (dq tX10_riverPart 72 rfl) rfl ?_
    refine g_iconst (n := 151) hx (dq tX10_riverPart 73 rfl) rfl ?_
    refine g_dup2 (n := 152) hx (dq tX10_riverPart 74 rfl) rfl rfl rfl ?_
    refine g_ialdX (n := 153) (q := 2) hx (aX10_29 (b := 229) (by decide)) (dq tX10_riverPart 75 rfl) rfl (by decide) (by decide) (by decide) rfl (fun h_160l h_160u => ?_)
    have h_160l : 0 ≤ M_156 (229 + 29) 2 := h_160l
    have h_160u : M_156 (229 + 29) 2 ≤ 4 := h_160u
    have e_161 : M_156 (229 + 29) 2 = M_139 (229 + 29) 2 := (m_157 (229 + 29) 2 (by omega))
    refine g_iconst (n := 154) hx (dq tX10_riverPart 76 rfl) rfl ?_
    refine g_iadd (n := 155) hx (dq tX10_riverPart 77 rfl) rfl ?_
    have e_162 : M_156 229 37 = M_139 229 37 := (m_157 229 37 (by omega))
    have e_163 : M_156 229 38 = M_139 229 38 := (m_157 229 38 (by omega))
    have e_164 : M_156 229 39 = M_139 229 39 := (m_157 229 39 (by omega))
    have e_165 : M_156 (229 + 29) 0 = M_139 (229 + 29) 0 := (m_157 (229 + 29) 0 (by omega))
    have e_166 : M_156 (229 + 29) 1 = M_139 (229 + 29) 1 := (m_157 (229 + 29) 1 (by omega))
    have e_167 : M_156 (229 + 29) 3 = M_139 (229 + 29) 3 := (m_157 (229 + 29) 3 (by omega))
    have e_168 : M_156 229 47 = M_139 229 47 := (m_157 229 47 (by omega))
    refine g_iastX (n := 156) (q := 2) hx (aX10_29 (b := 229) (by decide)) (dq tX10_riverPart 78 rfl) rfl (by decide) (by decide) (by decide) rfl (show 0 ≤ (M_156 (229 + 29) 2) + 1 by omega) (show (M_156 (229 + 29) 2) + 1 ≤ 4 by omega) (fun M_169 m_170e m_170 => ?_)
    have g_171 : Nw M_169 := Nw.gen g_158 (by have q39 := m_170 229 39 (by omega); omega) (fun j hj => m_170 _ j (by omega)) (fun v hv => m_170 _ v (by omega)) (fun l hl => m_170 _ l (by omega)) (fun l hl => m_170 _ l (by omega))
    have g_172 : Ty M_169 t9 n9 := Ty.frame g_159 (fun c j hcj => m_170 c j (by omega))
    refine g_goto (n := 184) hx (dq tX10_riverPart 79 rfl) (by decide) ?_
    have e_173 : M_169 229 37 = M_156 229 37 := (m_170 229 37 (by omega))
    have e_174 : M_169 229 38 = M_156 229 38 := (m_170 229 38 (by omega))
    have e_175 : M_169 229 39 = M_156 229 39 := (m_170 229 39 (by omega))
    have e_176 : M_169 (229 + 29) 0 = M_156 (229 + 29) 0 := (m_170 (229 + 29) 0 (by omega))
    have e_177 : M_169 (229 + 29) 1 = M_156 (229 + 29) 1 := (m_170 (229 + 29) 1 (by omega))
    have e_178 : M_169 (229 + 29) 3 = M_156 (229 + 29) 3 := (m_170 (229 + 29) 3 (by omega))
    have e_179 : M_169 229 47 = M_156 229 47 := (m_170 229 47 (by omega))
    exact g_vret hx hr (dq tX10_riverPart 94 rfl) ⟨(fun u_ v_ huv_ => (((m_170 u_ v_ (by omega)).trans (m_157 u_ v_ (by omega))).trans (f_142 u_ v_ (by omega)))), g_171, (by omega), (by omega), (rp_3 (by omega) (by omega) h_146 (by omega) (sk_eq (by omega))), (fun h0 => up_eq (by omega) (by omega) (by omega) (by omega) (by omega))⟩
  by_cases c_180 : k = 4
  · refine g_swI (t := 159) hx (dq tX10_riverPart 1 rfl) c_180 (by decide) (by decide) rfl (by decide) ?_
    refine g_aload_n (n := 160) hx 0 (dq tX10_riverPart 80 rfl) rfl rfl ?_
    refine g_callVv (n := 163) (As := []) (rest := []) hx (ctX10_readsLog3 Γ M t9 n9 a9 (by omega) (by omega) ex0 nw) mlX10_351 (obX10 (by decide)) (dq tX10_riverPart 81 rfl) rfl (Nat.le_of_ble_eq_true rfl) (Nat.le_of_ble_eq_true rfl) (Nat.le_of_ble_eq_true rfl) rfl (fun M_182 p_184 => ?_)
    obtain ⟨f_185, g_186, h_187, h_188, h_189, h_190, h_191⟩ := p_184
    have g_192 : Ty M_182 t9 n9 := Ty.frame ex0 (fun c j hcj => f_185 c j (by omega))
    refine g_goto (n := 184) hx (dq tX10_riverPart 82 rfl) (by decide) ?_
    have e_193 : M_182 229 37 = M 229 37 := (f_185 229 37 (by omega))
    have e_194 : M_182 (229 + 29) 0 = M (229 + 29) 0 := (f_185 (229 + 29) 0 (by omega))
    have e_195 : M_182 (229 + 29) 1 = M (229 + 29) 1 := (f_185 (229 + 29) 1 (by omega))
    have e_196 : M_182 (229 + 29) 2 = M (229 + 29) 2 := (f_185 (229 + 29) 2 (by omega))
    have e_197 : M_182 229 47 = M 229 47 := (f_185 229 47 (by omega))
    exact g_vret hx hr (dq tX10_riverPart 94 rfl) ⟨(fun u_ v_ huv_ => (f_185 u_ v_ (by omega))), g_186, (by omega), (by omega), (rp_4 (by omega) (by omega) h_190 (by omega) (sk_eq (by omega)) (by omega) (by omega)), (fun h0 => up_eq (by omega) (by omega) (by omega) (by omega) (by omega))⟩
  refine g_swO (t := 166) hx (dq tX10_riverPart 1 rfl) (zrI hkl hku (by decide) (by decide)) (by omega) (by decide) ?_
  refine g_aload_n (n := 167) hx 0 (dq tX10_riverPart 83 rfl) rfl rfl ?_
  refine g_getR (n := 170) hx glX10_94 (sX10_29 (by decide)) (dq tX10_riverPart 84 rfl) rfl ?_
  refine g_iconst (n := 171) hx (dq tX10_riverPart 85 rfl) rfl ?_
  refine g_aload_n (n := 172) hx 0 (dq tX10_riverPart 86 rfl) rfl rfl ?_
  refine g_iconst (n := 173) hx (dq tX10_riverPart 87 rfl) rfl ?_
  refine g_bipush (n := 175) hx (dq tX10_riverPart 88 rfl) rfl (by decide) ?_
  refine g_callVi (n := 178) (As := [vI 0, vI 9]) (rest := [vI 4, aR Γ (229 + 29)]) hx (ctX10_amount3 Γ M 0 (by decide) (by decide) 9 (by decide) (by decide) t9 n9 a9 (by omega) ex0) mlX10_347 (obX10 (by decide)) (dq tX10_riverPart 89 rfl) rfl (Nat.le_of_ble_eq_true rfl) (Nat.le_of_ble_eq_true rfl) (Nat.le_of_ble_eq_true rfl) rfl (fun z_198 M_199 h_200 p_201 => ?_)
  obtain ⟨f_202, h_203, h_204, h_205, h_206, h_207⟩ := p_201
  have g_208 : Nw M_199 := Nw.gen nw (by omega) (fun j hj => f_202 _ j (by omega)) (fun v hv => f_202 _ v (by omega)) (fun l hl => f_202 _ l (by omega)) (fun l hl => f_202 _ l (by omega))
  have g_209 : Ty M_199 t9 n9 := Ty.frame ex0 (fun c j hcj => f_202 c j (by omega))
  have e_210 : M_199 229 37 = M 229 37 := (f_202 229 37 (by omega))
  have e_211 : M_199 (229 + 29) 0 = M (229 + 29) 0 := (f_202 (229 + 29) 0 (by omega))
  have e_212 : M_199 (229 + 29) 1 = M (229 + 29) 1 := (f_202 (229 + 29) 1 (by omega))
  have e_213 : M_199 (229 + 29) 2 = M (229 + 29) 2 := (f_202 (229 + 29) 2 (by omega))
  have e_214 : M_199 (229 + 29) 3 = M (229 + 29) 3 := (f_202 (229 + 29) 3 (by omega))
  have e_215 : M_199 229 47 = M 229 47 := (f_202 229 47 (by omega))
  refine g_iastX (n := 179) (q := 4) hx (aX10_29 (b := 229) (by decide)) (dq tX10_riverPart 90 rfl) rfl (by decide) (by decide) (by decide) rfl (show (-2147483648) ≤ z_198 by omega) (show z_198 ≤ 2147483647 by omega) (fun M_216 m_217e m_217 => ?_)
  have g_218 : Nw M_216 := Nw.gen g_208 (by have q39 := m_217 229 39 (by omega); omega) (fun j hj => m_217 _ j (by omega)) (fun v hv => m_217 _ v (by omega)) (fun l hl => m_217 _ l (by omega)) (fun l hl => m_217 _ l (by omega))
  have g_219 : Ty M_216 t9 n9 := Ty.frame g_209 (fun c j hcj => m_217 c j (by omega))
  refine g_aload_n (n := 180) hx 0 (dq tX10_riverPart 91 rfl) rfl rfl ?_
  refine g_iconst (n := 181) hx (dq tX10_riverPart 92 rfl) rfl ?_
  have e_220 : M_216 229 37 = M_199 229 37 := (m_217 229 37 (by omega))
  have e_221 : M_216 229 38 = M_199 229 38 := (m_217 229 38 (by omega))
  have e_222 : M_216 229 39 = M_199 229 39 := (m_217 229 39 (by omega))
  have e_223 : M_216 (229 + 29) 0 = M_199 (229 + 29) 0 := (m_217 (229 + 29) 0 (by omega))
  have e_224 : M_216 (229 + 29) 1 = M_199 (229 + 29) 1 := (m_217 (229 + 29) 1 (by omega))
  have e_225 : M_216 (229 + 29) 2 = M_199 (229 + 29) 2 := (m_217 (229 + 29) 2 (by omega))
  have e_226 : M_216 (229 + 29) 3 = M_199 (229 + 29) 3 := (m_217 (229 + 29) 3 (by omega))
  have e_227 : M_216 229 47 = M_199 229 47 := (m_217 229 47 (by omega))
  refine g_putZ (n := 184) hx plX10_354 (sX10_47 (by decide)) (dq tX10_riverPart 93 rfl) rfl (by omega) (by omega) (by omega) (fun M_228 m_229e m_229 => ?_)
  have g_230 : Nw M_228 := Nw.gen g_218 (by have q39 := m_229 229 39 (by omega); omega) (fun j hj => m_229 _ j (by omega)) (fun v hv => m_229 _ v (by omega)) (fun l hl => m_229 _ l (by omega)) (fun l hl => m_229 _ l (by omega))
  have g_231 : Ty M_228 t9 n9 := Ty.frame g_219 (fun c j hcj => m_229 c j (by omega))
  have e_232 : M_228 229 37 = M_216 229 37 := (m_229 229 37 (by omega))
  have e_233 : M_228 229 38 = M_216 229 38 := (m_229 229 38 (by omega))
  have e_234 : M_228 229 39 = M_216 229 39 := (m_229 229 39 (by omega))
  have e_235 : M_228 (229 + 29) 0 = M_216 (229 + 29) 0 := (m_229 (229 + 29) 0 (by omega))
  have e_236 : M_228 (229 + 29) 1 = M_216 (229 + 29) 1 := (m_229 (229 + 29) 1 (by omega))
  have e_237 : M_228 (229 + 29) 2 = M_216 (229 + 29) 2 := (m_229 (229 + 29) 2 (by omega))
  have e_238 : M_228 (229 + 29) 3 = M_216 (229 + 29) 3 := (m_229 (229 + 29) 3 (by omega))
  exact g_vret hx hr (dq tX10_riverPart 94 rfl) ⟨(fun u_ v_ huv_ => (((m_229 u_ v_ (by omega)).trans (m_217 u_ v_ (by omega))).trans (f_202 u_ v_ (by omega)))), g_230, (by omega), (by omega), (rp_5 (by omega) (by omega) h_206 (by omega) (sk_eq (by omega))), (fun h0 => up_eq (by omega) (by omega) (by omega) (by omega) (by omega))⟩

abbrev qctX10_isFull3 (M : zM) (k : Int) (n : Int) (z : Int) (M' : zM) : Prop := M = M' ∧ 0 ≤ z ∧ z ≤ 1 ∧ (z = 0 → ((k = 1 → M (229 + 29) 1 ≤ 5) ∧ (k = 3 → M (229 + 29) 2 ≤ 3) ∧ (k = 4 → M (229 + 29) 3 ≤ 11))) ∧ (Hid ((z = 1 ∧ (n = 40 ∨ (k = 0 ∧ n ≠ 0) ∨ (k ≠ 0 ∧ n = 0) ∨ (k = 1 ∧ M (229 + 29) 1 = 6) ∨ (k = 3 ∧ M (229 + 29) 2 = 4) ∨ (k = 4 ∧ M (229 + 29) 3 = 12) ∨ (k = 5 ∧ M 229 47 = 1))) ∨ (z = 0 ∧ ¬ (n = 40 ∨ (k = 0 ∧ n ≠ 0) ∨ (k ≠ 0 ∧ n = 0) ∨ (k = 1 ∧ M (229 + 29) 1 = 6) ∨ (k = 3 ∧ M (229 + 29) 2 = 4) ∨ (k = 4 ∧ M (229 + 29) 3 = 12) ∨ (k = 5 ∧ M 229 47 = 1))))) ∧ (z = 0 → n ≠ 40)
set_option maxHeartbeats 4000000 in
set_option maxRecDepth 100000 in
theorem ctX10_isFull3 (Γ : Gam) (M : zM) (k : Int) (hkl : 0 ≤ k) (hku : k ≤ 5) (n : Int) (hnl : 0 ≤ n) (hnu : n ≤ 402)  : CtI Γ yX10_isFull cX10_isFull 3 (some .boolean) 0 0 [aR Γ 229, vI k, vI n] M (qctX10_isFull3 M k n) := by
  refine met_i (by decide) (Nat.le_of_ble_eq_true rfl) (fun x hx hr => ?_)
  show G Γ x 3 (QI Γ x (qctX10_isFull3 M k n)) M 0 [(0, aR Γ 229), (1, vI k), (2, vI n)] []
  refine g_iload_n (n := 1) hx 2 (dq tX10_isFull 0 rfl) rfl rfl ?_
  refine g_bipush (n := 3) hx (dq tX10_isFull 1 rfl) rfl (by decide) ?_
  refine g_icmp_eq (n := 6) (t := 27) hx (dq tX10_isFull 2 rfl) (by decide) rfl (zrI hnl hnu (by decide) (by decide)) ⟨by decide, by decide⟩ (fun c_1 => ?_) (fun c_1 => ?_)
  · refine g_iconst (n := 28) hx (dq tX10_isFull 14 rfl) rfl ?_
    exact g_zret hx hr (dq tX10_isFull 15 rfl) (by omega) ⟨rfl, (by omega), (by omega), (by omega), (Hid.mk (by omega)), (by omega)⟩
  · refine g_iload_n (n := 7) hx 1 (dq tX10_isFull 3 rfl) rfl rfl ?_
    refine g_if_ne (n := 10) (t := 14) hx (dq tX10_isFull 4 rfl) (by decide) rfl (zrI hkl hku (by decide) (by decide)) (fun c_2 => ?_) (fun c_2 => ?_)
    · refine g_iconst (n := 15) hx (dq tX10_isFull 7 rfl) rfl ?_
      refine g_iload_n (n := 16) hx 2 (dq tX10_isFull 8 rfl) rfl rfl ?_
      refine g_if_ne (n := 19) (t := 23) hx (dq tX10_isFull 9 rfl) (by decide) rfl (zrI hnl hnu (by decide) (by decide)) (fun c_3 => ?_) (fun c_3 => ?_)
      · refine g_iconst (n := 24) hx (dq tX10_isFull 12 rfl) rfl ?_
        refine g_icmp_eq (n := 27) (t := 29) hx (dq tX10_isFull 13 rfl) (by decide) rfl ⟨by decide, by decide⟩ ⟨by decide, by decide⟩ (fun c_4 => ?_) (fun c_4 => ?_)
        · refine g_iload_n (n := 30) hx 1 (dq tX10_isFull 16 rfl) rfl rfl ?_
          by_cases c_5 : k = 1
          · refine g_swI (t := 64) hx (dq tX10_isFull 17 rfl) c_5 (by decide) (by decide) rfl (by decide) ?_
            refine g_aload_n (n := 65) hx 0 (dq tX10_isFull 18 rfl) rfl rfl ?_
            refine g_getR (n := 68) hx glX10_94 (sX10_29 (by decide)) (dq tX10_isFull 19 rfl) rfl ?_
            refine g_iconst (n := 69) hx (dq tX10_isFull 20 rfl) rfl ?_
            refine g_ialdX (n := 70) (q := 1) hx (aX10_29 (b := 229) (by decide)) (dq tX10_isFull 21 rfl) rfl (by decide) (by decide) (by decide) rfl (fun h_6l h_6u => ?_)
            have h_6l : 0 ≤ M (229 + 29) 1 := h_6l
            have h_6u : M (229 + 29) 1 ≤ 6 := h_6u
            refine g_bipush (n := 72) hx (dq tX10_isFull 22 rfl) rfl (by decide) ?_
            refine g_icmp_ne (n := 75) (t := 79) hx (dq tX10_isFull 23 rfl) (by decide) rfl (zrI h_6l h_6u (by decide) (by decide)) ⟨by decide, by decide⟩ (fun c_7 => ?_) (fun c_7 => ?_)
            · refine g_iconst (n := 80) hx (dq tX10_isFull 26 rfl) rfl ?_
              exact g_zret hx hr (dq tX10_isFull 27 rfl) (by omega) ⟨rfl, (by omega), (by omega), (by omega), (Hid.mk (by omega)), (by omega)⟩
            · refine g_iconst (n := 76) hx (dq tX10_isFull 24 rfl) rfl ?_
              refine g_goto (n := 80) hx (dq tX10_isFull 25 rfl) (by decide) ?_
              exact g_zret hx hr (dq tX10_isFull 27 rfl) (by omega) ⟨rfl, (by omega), (by omega), (by omega), (Hid.mk (by omega)), (by omega)⟩
          by_cases c_8 : k = 2
          · refine g_swI (t := 119) hx (dq tX10_isFull 17 rfl) c_8 (by decide) (by decide) rfl (by decide) ?_
            refine g_iconst (n := 120) hx (dq tX10_isFull 51 rfl) rfl ?_
            exact g_zret hx hr (dq tX10_isFull 52 rfl) (by omega) ⟨rfl, (by omega), (by omega), (by omega), (Hid.mk (by omega)), (by omega)⟩
          by_cases c_9 : k = 3
          · refine g_swI (t := 81) hx (dq tX10_isFull 17 rfl) c_9 (by decide) (by decide) rfl (by decide) ?_
            refine g_aload_n (n := 82) hx 0 (dq tX10_isFull 28 rfl) rfl rfl ?_
            refine g_getR (n := 85) hx glX10_94 (sX10_29 (by decide)) (dq tX10_isFull 29 rfl) rfl ?_
            refine g_iconst (n := 86) hx (dq tX10_isFull 30 rfl) rfl ?_
            refine g_ialdX (n := 87) (q := 2) hx (aX10_29 (b := 229) (by decide)) (dq tX10_isFull 31 rfl) rfl (by decide) (by decide) (by decide) rfl (fun h_10l h_10u => ?_)
            have h_10l : 0 ≤ M (229 + 29) 2 := h_10l
            have h_10u : M (229 + 29) 2 ≤ 4 := h_10u
            refine g_iconst (n := 88) hx (dq tX10_isFull 32 rfl) rfl ?_
            refine g_icmp_ne (n := 91) (t := 95) hx (dq tX10_isFull 33 rfl) (by decide) rfl (zrI h_10l h_10u (by decide) (by decide)) ⟨by decide, by decide⟩ (fun c_11 => ?_) (fun c_11 => ?_)
            · refine g_iconst (n := 96) hx (dq tX10_isFull 36 rfl) rfl ?_
              exact g_zret hx hr (dq tX10_isFull 37 rfl) (by omega) ⟨rfl, (by omega), (by omega), (by omega), (Hid.mk (by omega)), (by omega)⟩
            · refine g_iconst (n := 92) hx (dq tX10_isFull 34 rfl) rfl ?_
              refine g_goto (n := 96) hx (dq tX10_isFull 35 rfl) (by decide) ?_
              exact g_zret hx hr (dq tX10_isFull 37 rfl) (by omega) ⟨rfl, (by omega), (by omega), (by omega), (Hid.mk (by omega)), (by omega)⟩
          by_cases c_12 : k = 4
          · refine g_swI (t := 97) hx (dq tX10_isFull 17 rfl) c_12 (by decide) (by decide) rfl (by decide) ?_
            refine g_aload_n (n := 98) hx 0 (dq tX10_isFull 38 rfl) rfl rfl ?_
            refine g_getR (n := 101) hx glX10_94 (sX10_29 (by decide)) (dq tX10_isFull 39 rfl) rfl ?_
            refine g_iconst (n := 102) hx (dq tX10_isFull 40 rfl) rfl ?_
            refine g_ialdX (n := 103) (q := 3) hx (aX10_29 (b := 229) (by decide)) (dq tX10_isFull 41 rfl) rfl (by decide) (by decide) (by decide) rfl (fun h_13l h_13u => ?_)
            have h_13l : 0 ≤ M (229 + 29) 3 := h_13l
            have h_13u : M (229 + 29) 3 ≤ 12 := h_13u
            refine g_bipush (n := 105) hx (dq tX10_isFull 42 rfl) rfl (by decide) ?_
            refine g_icmp_ne (n := 108) (t := 112) hx (dq tX10_isFull 43 rfl) (by decide) rfl (zrI h_13l h_13u (by decide) (by decide)) ⟨by decide, by decide⟩ (fun c_14 => ?_) (fun c_14 => ?_)
            · refine g_iconst (n := 113) hx (dq tX10_isFull 46 rfl) rfl ?_
              exact g_zret hx hr (dq tX10_isFull 47 rfl) (by omega) ⟨rfl, (by omega), (by omega), (by omega), (Hid.mk (by omega)), (by omega)⟩
            · refine g_iconst (n := 109) hx (dq tX10_isFull 44 rfl) rfl ?_
              refine g_goto (n := 113) hx (dq tX10_isFull 45 rfl) (by decide) ?_
              exact g_zret hx hr (dq tX10_isFull 47 rfl) (by omega) ⟨rfl, (by omega), (by omega), (by omega), (Hid.mk (by omega)), (by omega)⟩
          by_cases c_15 : k = 5
          · refine g_swI (t := 114) hx (dq tX10_isFull 17 rfl) c_15 (by decide) (by decide) rfl (by decide) ?_
            refine g_aload_n (n := 115) hx 0 (dq tX10_isFull 48 rfl) rfl rfl ?_
            refine g_getI (n := 118) hx glX10_354 (sX10_47 (by decide)) (dq tX10_isFull 49 rfl) rfl (fun h_16l h_16u => ?_)
            exact g_zret hx hr (dq tX10_isFull 50 rfl) (by omega) ⟨rfl, (by omega), (by omega), (by omega), (Hid.mk (by omega)), (by omega)⟩
          refine g_swO (t := 119) hx (dq tX10_isFull 17 rfl) (zrI hkl hku (by decide) (by decide)) (by omega) (by decide) ?_
          refine g_iconst (n := 120) hx (dq tX10_isFull 51 rfl) rfl ?_
          exact g_zret hx hr (dq tX10_isFull 52 rfl) (by omega) ⟨rfl, (by omega), (by omega), (by omega), (Hid.mk (by omega)), (by omega)⟩
        · omega
      · refine g_iconst (n := 20) hx (dq tX10_isFull 10 rfl) rfl ?_
        refine g_goto (n := 24) hx (dq tX10_isFull 11 rfl) (by decide) ?_
        refine g_icmp_eq (n := 27) (t := 29) hx (dq tX10_isFull 13 rfl) (by decide) rfl ⟨by decide, by decide⟩ ⟨by decide, by decide⟩ (fun c_17 => ?_) (fun c_17 => ?_)
        · omega
        · refine g_iconst (n := 28) hx (dq tX10_isFull 14 rfl) rfl ?_
          exact g_zret hx hr (dq tX10_isFull 15 rfl) (by omega) ⟨rfl, (by omega), (by omega), (by omega), (Hid.mk (by omega)), (by omega)⟩
    · refine g_iconst (n := 11) hx (dq tX10_isFull 5 rfl) rfl ?_
      refine g_goto (n := 15) hx (dq tX10_isFull 6 rfl) (by decide) ?_
      refine g_iload_n (n := 16) hx 2 (dq tX10_isFull 8 rfl) rfl rfl ?_
      refine g_if_ne (n := 19) (t := 23) hx (dq tX10_isFull 9 rfl) (by decide) rfl (zrI hnl hnu (by decide) (by decide)) (fun c_18 => ?_) (fun c_18 => ?_)
      · refine g_iconst (n := 24) hx (dq tX10_isFull 12 rfl) rfl ?_
        refine g_icmp_eq (n := 27) (t := 29) hx (dq tX10_isFull 13 rfl) (by decide) rfl ⟨by decide, by decide⟩ ⟨by decide, by decide⟩ (fun c_19 => ?_) (fun c_19 => ?_)
        · omega
        · refine g_iconst (n := 28) hx (dq tX10_isFull 14 rfl) rfl ?_
          exact g_zret hx hr (dq tX10_isFull 15 rfl) (by omega) ⟨rfl, (by omega), (by omega), (by omega), (Hid.mk (by omega)), (by omega)⟩
      · refine g_iconst (n := 20) hx (dq tX10_isFull 10 rfl) rfl ?_
        refine g_goto (n := 24) hx (dq tX10_isFull 11 rfl) (by decide) ?_
        refine g_icmp_eq (n := 27) (t := 29) hx (dq tX10_isFull 13 rfl) (by decide) rfl ⟨by decide, by decide⟩ ⟨by decide, by decide⟩ (fun c_20 => ?_) (fun c_20 => ?_)
        · refine g_iload_n (n := 30) hx 1 (dq tX10_isFull 16 rfl) rfl rfl ?_
          refine g_swO (t := 119) hx (dq tX10_isFull 17 rfl) (zrI hkl hku (by decide) (by decide)) (by omega) (by decide) ?_
          refine g_iconst (n := 120) hx (dq tX10_isFull 51 rfl) rfl ?_
          exact g_zret hx hr (dq tX10_isFull 52 rfl) (by omega) ⟨rfl, (by omega), (by omega), (by omega), (Hid.mk (by omega)), (by omega)⟩
        · omega
