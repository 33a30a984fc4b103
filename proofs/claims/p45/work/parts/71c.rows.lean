abbrev qctX10_fails3 (M : zM) (code : Int) (place : Int) (M' : zM) : Prop := (∀ u_ v_, (u_ ≠ 229 ∨ v_ ≠ 39) → M' u_ v_ = M u_ v_) ∧ (M 229 39 = 0 → M' 229 39 = 1 + 8 * place + code) ∧ (M 229 39 ≠ 0 → M' 229 39 = M 229 39)
set_option maxHeartbeats 4000000 in
set_option maxRecDepth 100000 in
theorem ctX10_fails3 (Γ : Gam) (M : zM) (code : Int) (hcodel : 0 ≤ code) (hcodeu : code ≤ 4) (place : Int) (hplacel : 0 ≤ place) (hplaceu : place ≤ 402)  : CtV Γ yX10_fails cX10_fails 3 none 0 0 [aR Γ 229, vI code, vI place] M (qctX10_fails3 M code place) := by
  refine met_v (by decide) (Nat.le_of_ble_eq_true rfl) (fun x hx hr => ?_)
  show G Γ x 3 (QV Γ x (qctX10_fails3 M code place)) M 0 [(0, aR Γ 229), (1, vI code), (2, vI place)] []
  refine g_aload_n (n := 1) hx 0 (dq tX10_fails 0 rfl) rfl rfl ?_
  refine g_aload_n (n := 2) hx 0 (dq tX10_fails 1 rfl) rfl rfl ?_
  refine g_getI (n := 5) hx glX10_246 (sX10_39 (by decide)) (dq tX10_fails 2 rfl) rfl (fun h_1l h_1u => ?_)
  refine g_if_ne (n := 8) (t := 19) hx (dq tX10_fails 3 rfl) (by decide) rfl (zrI h_1l h_1u (by decide) (by decide)) (fun c_2 => ?_) (fun c_2 => ?_)
  · refine g_aload_n (n := 20) hx 0 (dq tX10_fails 12 rfl) rfl rfl ?_
    refine g_getI (n := 23) hx glX10_246 (sX10_39 (by decide)) (dq tX10_fails 13 rfl) rfl (fun h_3l h_3u => ?_)
    refine g_putI (n := 26) hx plX10_246 (sX10_39 (by decide)) (dq tX10_fails 14 rfl) rfl (by omega) (by omega) (fun M_4 m_5e m_5 => ?_)
    exact g_vret hx hr (dq tX10_fails 15 rfl) ⟨(fun u_ v_ huv_ => (m_5 u_ v_ (by omega))), (by omega), (by omega)⟩
  · refine g_iconst (n := 9) hx (dq tX10_fails 4 rfl) rfl ?_
    refine g_bipush (n := 11) hx (dq tX10_fails 5 rfl) rfl (by decide) ?_
    refine g_iload_n (n := 12) hx 2 (dq tX10_fails 6 rfl) rfl rfl ?_
    refine g_imul (n := 13) hx (dq tX10_fails 7 rfl) rfl ?_
    refine g_iadd (n := 14) hx (dq tX10_fails 8 rfl) rfl ?_
    refine g_iload_n (n := 15) hx 1 (dq tX10_fails 9 rfl) rfl rfl ?_
    refine g_iadd (n := 16) hx (dq tX10_fails 10 rfl) rfl ?_
    refine g_goto (n := 23) hx (dq tX10_fails 11 rfl) (by decide) ?_
    refine g_putI (n := 26) hx plX10_246 (sX10_39 (by decide)) (dq tX10_fails 14 rfl) rfl (by omega) (by omega) (fun M_6 m_7e m_7 => ?_)
    exact g_vret hx hr (dq tX10_fails 15 rfl) ⟨(fun u_ v_ huv_ => (m_7 u_ v_ (by omega))), (by omega), (by omega)⟩

abbrev qctX10_sign3 (M : zM) (t9 : Nat → Int) (n9 : Nat) (a9 : Nat) (z : Int) (M' : zM) : Prop := M = M' ∧ (-1) ≤ z ∧ z ≤ 255 ∧ (z = fst9 t9 n9 a9) ∧ ((z = -1 ∧ n9 ≤ a9) ∨ (a9 < n9 ∧ z = t9 a9 ∧ 0 ≤ z))
set_option maxHeartbeats 4000000 in
set_option maxRecDepth 100000 in
theorem ctX10_sign3 (Γ : Gam) (M : zM) (t9 : Nat → Int) (n9 : Nat) (a9 : Nat) (pre0 : M 229 38 = a9) (ex0 : Ty M t9 n9) : CtI Γ yX10_sign cX10_sign 1 (some .int) 0 0 [aR Γ 229] M (qctX10_sign3 M t9 n9 a9) := by
  refine met_i (by decide) (Nat.le_of_ble_eq_true rfl) (fun x hx hr => ?_)
  show G Γ x 1 (QI Γ x (qctX10_sign3 M t9 n9 a9)) M 0 [(0, aR Γ 229)] []
  refine g_iv (fun hI0 => ?_)
  have hI_37 : (0 : Int) ≤ M 229 37 ∧ M 229 37 ≤ 400 := hI0 229 37
  have hI_38 : (0 : Int) ≤ M 229 38 ∧ M 229 38 ≤ 402 := hI0 229 38
  have hI_45 : (0 : Int) ≤ M 229 45 ∧ M 229 45 ≤ 402 := hI0 229 45
  have hI_42 : (0 : Int) ≤ M 229 42 ∧ M 229 42 ≤ 300 := hI0 229 42
  have hI_39 : (0 : Int) ≤ M 229 39 ∧ M 229 39 ≤ 100000 := hI0 229 39
  have hI_40 : (0 : Int) ≤ M 229 40 ∧ M 229 40 ≤ 5 := hI0 229 40
  have hI_41 : (0 : Int) ≤ M 229 41 ∧ M 229 41 ≤ 6 := hI0 229 41
  clear hI0
  have hty_n := ex0.1
  refine g_aload_n (n := 1) hx 0 (dq tX10_sign 0 rfl) rfl rfl ?_
  refine g_getI (n := 4) hx glX10_249 (sX10_38 (by decide)) (dq tX10_sign 1 rfl) rfl (fun h_1l h_1u => ?_)
  refine g_aload_n (n := 5) hx 0 (dq tX10_sign 2 rfl) rfl rfl ?_
  refine g_getI (n := 8) hx glX10_216 (sX10_37 (by decide)) (dq tX10_sign 3 rfl) rfl (fun h_2l h_2u => ?_)
  refine g_icmp_ge (n := 11) (t := 27) hx (dq tX10_sign 4 rfl) (by decide) rfl (zrI h_1l h_1u (by decide) (by decide)) (zrI h_2l h_2u (by decide) (by decide)) (fun c_3 => ?_) (fun c_3 => ?_)
  · refine g_iconst (n := 28) hx (dq tX10_sign 13 rfl) rfl ?_
    exact g_iret hx hr (dq tX10_sign 14 rfl) ⟨by decide, by decide⟩ ⟨rfl, (by omega), (by omega), (fst9_out (by omega)).symm, (by omega)⟩
  · refine g_aload_n (n := 12) hx 0 (dq tX10_sign 5 rfl) rfl rfl ?_
    refine g_getR (n := 15) hx glX10_122 (sX10_48 (by decide)) (dq tX10_sign 6 rfl) rfl ?_
    refine g_aload_n (n := 16) hx 0 (dq tX10_sign 7 rfl) rfl rfl ?_
    refine g_getI (n := 19) hx glX10_249 (sX10_38 (by decide)) (dq tX10_sign 8 rfl) rfl (fun h_4l h_4u => ?_)
    refine g_bald (n := 20) (q := (M 229 38).toNat) hx (aX10_48 (b := 229) (by decide)) (dq tX10_sign 9 rfl) rfl (by omega) (by omega) (by omega) rfl (fun h_5l h_5u => ?_)
    have h_5l : (-128) ≤ M (229 + 37) ((M 229 38).toNat) := h_5l
    have h_5u : M (229 + 37) ((M 229 38).toNat) ≤ 127 := h_5u
    have h_6 : M (229 + 37) ((M 229 38).toNat) % 256 = t9 a9 := by rw [show ((M 229 38).toNat) = a9 by omega]; exact ex0.2 a9 (by omega)
    refine g_sipush (n := 23) hx (dq tX10_sign 10 rfl) rfl (by decide) ?_
    refine g_iandE (n := 24) hx (dq tX10_sign 11 rfl) rfl (fun z_7 h_8 h_9e h_91 h_92 => ?_)
    obtain ⟨h_93, h_94⟩ := h_91 (by omega) (by omega)
    clear h_91 h_92
    rw [and255s (by omega) (by omega)] at h_9e
    refine g_goto (n := 28) hx (dq tX10_sign 12 rfl) (by decide) ?_
    exact g_iret hx hr (dq tX10_sign 14 rfl) h_8 ⟨rfl, (by omega), (by omega), (by rw [fst9_in (by omega)]; omega), (by omega)⟩

abbrev qctX10_blanks3 (M : zM) (t9 : Nat → Int) (n9 : Nat) (a9 : Nat) (M' : zM) : Prop := (∀ u_ v_, (u_ ≠ 229 ∨ v_ ≠ 38) → M' u_ v_ = M u_ v_) ∧ (M 229 38 ≤ M' 229 38) ∧ (M' 229 38 = M 229 38 ∨ M' 229 38 ≤ M 229 37) ∧ (M' 229 38 = sk t9 n9 a9)
set_option maxHeartbeats 4000000 in
set_option maxRecDepth 100000 in
theorem ctX10_blanks3 (Γ : Gam) (M : zM) (t9 : Nat → Int) (n9 : Nat) (a9 : Nat) (pre0 : M 229 38 = a9) (ex0 : Ty M t9 n9) : CtV Γ yX10_blanks cX10_blanks 1 none 1 20 [aR Γ 229] M (qctX10_blanks3 M t9 n9 a9) := by
  refine met_v (by decide) (Nat.le_of_ble_eq_true rfl) (fun x hx hr => ?_)
  show G Γ x 1 (QV Γ x (qctX10_blanks3 M t9 n9 a9)) M 0 [(0, aR Γ 229)] []
  refine g_iv (fun hI0 => ?_)
  have hI_37 : (0 : Int) ≤ M 229 37 ∧ M 229 37 ≤ 400 := hI0 229 37
  have hI_38 : (0 : Int) ≤ M 229 38 ∧ M 229 38 ≤ 402 := hI0 229 38
  have hI_45 : (0 : Int) ≤ M 229 45 ∧ M 229 45 ≤ 402 := hI0 229 45
  have hI_42 : (0 : Int) ≤ M 229 42 ∧ M 229 42 ≤ 300 := hI0 229 42
  have hI_39 : (0 : Int) ≤ M 229 39 ∧ M 229 39 ≤ 100000 := hI0 229 39
  have hI_40 : (0 : Int) ≤ M 229 40 ∧ M 229 40 ≤ 5 := hI0 229 40
  have hI_41 : (0 : Int) ≤ M 229 41 ∧ M 229 41 ≤ 6 := hI0 229 41
  clear hI0
  have hty_n := ex0.1
  have L_2 : ∀ (n_ : Nat) (M_1 : zM), (∀ u_ v_, (u_ ≠ 229 ∨ v_ ≠ 38) → M_1 u_ v_ = M u_ v_) → (Ty M_1 t9 n9) → (M 229 38 ≤ M_1 229 38) → (M_1 229 38 = M 229 38 ∨ M_1 229 38 ≤ M 229 37) → (wh t9 n9 32 32 (M_1 229 38).toNat = sk t9 n9 a9) → ((402 - M_1 229 38).toNat = n_) → G Γ x 1 (QV Γ x (qctX10_blanks3 M t9 n9 a9)) M_1 0 [(0, aR Γ 229)] [] := by
    intro n_
    induction n_ using Nat.strongRecOn with
    | _ n_ ih_3 =>
      intro M_1 f_4 g_5 h_7 h_8 h_9 hm_6
      refine g_aload_n (n := 1) hx 0 (dq tX10_blanks 0 rfl) rfl rfl ?_
      have e_10 : M_1 229 37 = M 229 37 := (f_4 229 37 (by omega))
      refine g_callVi (n := 4) (As := []) (rest := []) hx (ctX10_sign3 Γ M_1 t9 n9 ((M_1 229 38).toNat) (by omega) g_5) mlX10_252 (obX10 (by decide)) (dq tX10_blanks 1 rfl) rfl (Nat.le_of_ble_eq_true rfl) (Nat.le_of_ble_eq_true rfl) (Nat.le_of_ble_eq_true rfl) rfl (fun z_11 M_12 h_13 p_14 => ?_)
      obtain ⟨rfl, h_16, h_17, h_18, h_19⟩ := p_14
      refine g_bipush (n := 6) hx (dq tX10_blanks 2 rfl) rfl (by decide) ?_
      refine g_icmp_ne (n := 9) (t := 22) hx (dq tX10_blanks 3 rfl) (by decide) rfl h_13 ⟨by decide, by decide⟩ (fun c_20 => ?_) (fun c_20 => ?_)
      · exact g_vret hx hr (dq tX10_blanks 11 rfl) ⟨(fun u_ v_ huv_ => (f_4 u_ v_ (by omega))), (by omega), (by omega), (by have w1 : wh t9 n9 32 32 (M_1 229 38).toNat = sk t9 n9 a9 := h_9; rw [wh_stop (by omega)] at w1; omega)⟩
      · refine g_aload_n (n := 10) hx 0 (dq tX10_blanks 4 rfl) rfl rfl ?_
        refine g_dup (n := 11) hx (dq tX10_blanks 5 rfl) rfl rfl ?_
        refine g_getI (n := 14) hx glX10_249 (sX10_38 (by decide)) (dq tX10_blanks 6 rfl) rfl (fun h_21l h_21u => ?_)
        refine g_iconst (n := 15) hx (dq tX10_blanks 7 rfl) rfl ?_
        refine g_iadd (n := 16) hx (dq tX10_blanks 8 rfl) rfl ?_
        refine g_putI (n := 19) hx plX10_249 (sX10_38 (by decide)) (dq tX10_blanks 9 rfl) rfl (by omega) (by omega) (fun M_22 m_23e m_23 => ?_)
        have g_24 : Ty M_22 t9 n9 := Ty.frame g_5 (fun c j hcj => m_23 c j (by omega))
        refine g_goto (n := 0) hx (dq tX10_blanks 10 rfl) (by decide) ?_
        have e_25 : M_22 229 37 = M_1 229 37 := (m_23 229 37 (by omega))
        exact ih_3 _ (by omega) M_22 (fun u_ v_ huv_ => ((m_23 u_ v_ (by omega)).trans (f_4 u_ v_ (by omega)))) g_24 (by omega) (by omega) (by rw [show (M_22 229 38).toNat = (M_1 229 38).toNat + 1 by omega]; exact (show wh t9 n9 32 32 ((M_1 229 38).toNat + 1) = sk t9 n9 a9 by rw [← wh_go (t := t9) (n := n9) (lo := 32) (hi := 32) (a := (M_1 229 38).toNat) (by omega) (by omega) (by omega)]; exact h_9)) rfl
  exact L_2 _ M (fun _ _ _ => rfl) ex0 (by omega) (by omega) (by rw [show (M 229 38).toNat = a9 by omega]; rfl) rfl

abbrev qctX10_isDigit3 (M : zM) (t9 : Nat → Int) (n9 : Nat) (a9 : Nat) (z : Int) (M' : zM) : Prop := M = M' ∧ 0 ≤ z ∧ z ≤ 1 ∧ (((z = 1 ∧ 48 ≤ fst9 t9 n9 a9 ∧ fst9 t9 n9 a9 ≤ 57 ∧ a9 < n9) ∨ (z = 0 ∧ ¬ (48 ≤ fst9 t9 n9 a9 ∧ fst9 t9 n9 a9 ≤ 57))))
set_option maxHeartbeats 4000000 in
set_option maxRecDepth 100000 in
theorem ctX10_isDigit3 (Γ : Gam) (M : zM) (t9 : Nat → Int) (n9 : Nat) (a9 : Nat) (pre0 : M 229 38 = a9) (ex0 : Ty M t9 n9) : CtI Γ yX10_isDigit cX10_isDigit 1 (some .boolean) 1 25 [aR Γ 229] M (qctX10_isDigit3 M t9 n9 a9) := by
  refine met_i (by decide) (Nat.le_of_ble_eq_true rfl) (fun x hx hr => ?_)
  show G Γ x 1 (QI Γ x (qctX10_isDigit3 M t9 n9 a9)) M 0 [(0, aR Γ 229)] []
  refine g_iv (fun hI0 => ?_)
  have hI_37 : (0 : Int) ≤ M 229 37 ∧ M 229 37 ≤ 400 := hI0 229 37
  have hI_38 : (0 : Int) ≤ M 229 38 ∧ M 229 38 ≤ 402 := hI0 229 38
  have hI_45 : (0 : Int) ≤ M 229 45 ∧ M 229 45 ≤ 402 := hI0 229 45
  have hI_42 : (0 : Int) ≤ M 229 42 ∧ M 229 42 ≤ 300 := hI0 229 42
  have hI_39 : (0 : Int) ≤ M 229 39 ∧ M 229 39 ≤ 100000 := hI0 229 39
  have hI_40 : (0 : Int) ≤ M 229 40 ∧ M 229 40 ≤ 5 := hI0 229 40
  have hI_41 : (0 : Int) ≤ M 229 41 ∧ M 229 41 ≤ 6 := hI0 229 41
  clear hI0
  have hty_n := ex0.1
  refine g_aload_n (n := 1) hx 0 (dq tX10_isDigit 0 rfl) rfl rfl ?_
  refine g_callVi (n := 4) (As := []) (rest := []) hx (ctX10_sign3 Γ M t9 n9 a9 (by omega) ex0) mlX10_252 (obX10 (by decide)) (dq tX10_isDigit 1 rfl) rfl (Nat.le_of_ble_eq_true rfl) (Nat.le_of_ble_eq_true rfl) (Nat.le_of_ble_eq_true rfl) rfl (fun z_1 M_2 h_3 p_4 => ?_)
  obtain ⟨rfl, h_6, h_7, h_8, h_9⟩ := p_4
  refine g_i2l (n := 5) hx (dq tX10_isDigit 2 rfl) rfl h_3 ?_
  refine g_ldc2 (n := 8) (z := 48) hx wd_1449 (by decide) (dq tX10_isDigit 3 rfl) rfl ?_
  refine g_ldc2 (n := 11) (z := 57) hx wd_1450 (by decide) (dq tX10_isDigit 4 rfl) rfl ?_
  refine g_callSi (n := 14) (As := [vL z_1, vL 48, vL 57]) (rest := []) hx (ctX10_in Γ M z_1 (by omega) (by omega) 48 (by omega) (by omega) 57 (by omega) (by omega)) mlX10_191 (dq tX10_isDigit 5 rfl) rfl (Nat.le_of_ble_eq_true rfl) (Nat.le_of_ble_eq_true rfl) (Nat.le_of_ble_eq_true rfl) rfl (fun z_10 M_11 h_12 p_13 => ?_)
  obtain ⟨rfl, b_15, h_16⟩ := p_13
  exact g_zret hx hr (dq tX10_isDigit 6 rfl) (by omega) ⟨rfl, (by omega), (by omega), (by omega)⟩

abbrev qctX10_wordOf3 (M : zM) (k : Int) (z : Nat) (M' : zM) : Prop := M = M' ∧ (csL z = wVal.getD k.toNat []) ∧ (LW z) ∧ (sln z = wlF k) ∧ (z < 25)
set_option maxHeartbeats 4000000 in
set_option maxRecDepth 100000 in
theorem ctX10_wordOf3 (Γ : Gam) (M : zM) (k : Int) (hkl : 0 ≤ k) (hku : k ≤ 12)  : CtS Γ yX10_wordOf cX10_wordOf 1 (some (.object "java/lang/String")) 0 0 [vI k] M (qctX10_wordOf3 M k) := by
  refine met_s (by decide) (Nat.le_of_ble_eq_true rfl) (fun x hx hr => ?_)
  show G Γ x 1 (QS Γ x (qctX10_wordOf3 M k)) M 0 [(0, vI k)] []
  refine g_iload_n (n := 1) hx 0 (dq tX10_wordOf 0 rfl) rfl rfl ?_
  by_cases c_1 : k = 0
  · refine g_swI (t := 64) hx (dq tX10_wordOf 1 rfl) c_1 (by decide) (by decide) rfl (by decide) ?_
    refine g_ldcS (n := 66) (q := 0) hx rfl rfl rfl (dq tX10_wordOf 2 rfl) rfl ?_
    exact g_sret (i := 0) hx hr (dq tX10_wordOf 3 rfl) ⟨rfl, (by have e : k = 0 := (by omega); rw [e]; decide +kernel), (by unfold LW; decide +kernel), (by have e : k = 0 := (by omega); rw [e]; decide), (by omega)⟩
  by_cases c_2 : k = 1
  · refine g_swI (t := 67) hx (dq tX10_wordOf 1 rfl) c_2 (by decide) (by decide) rfl (by decide) ?_
    refine g_ldcS (n := 69) (q := 1) hx rfl rfl rfl (dq tX10_wordOf 4 rfl) rfl ?_
    exact g_sret (i := 1) hx hr (dq tX10_wordOf 5 rfl) ⟨rfl, (by have e : k = 1 := (by omega); rw [e]; decide +kernel), (by unfold LW; decide +kernel), (by have e : k = 1 := (by omega); rw [e]; decide), (by omega)⟩
  by_cases c_3 : k = 2
  · refine g_swI (t := 70) hx (dq tX10_wordOf 1 rfl) c_3 (by decide) (by decide) rfl (by decide) ?_
    refine g_ldcS (n := 72) (q := 2) hx rfl rfl rfl (dq tX10_wordOf 6 rfl) rfl ?_
    exact g_sret (i := 2) hx hr (dq tX10_wordOf 7 rfl) ⟨rfl, (by have e : k = 2 := (by omega); rw [e]; decide +kernel), (by unfold LW; decide +kernel), (by have e : k = 2 := (by omega); rw [e]; decide), (by omega)⟩
  by_cases c_4 : k = 3
  · refine g_swI (t := 73) hx (dq tX10_wordOf 1 rfl) c_4 (by decide) (by decide) rfl (by decide) ?_
    refine g_ldcS (n := 75) (q := 3) hx rfl rfl rfl (dq tX10_wordOf 8 rfl) rfl ?_
    exact g_sret (i := 3) hx hr (dq tX10_wordOf 9 rfl) ⟨rfl, (by have e : k = 3 := (by omega); rw [e]; decide +kernel), (by unfold LW; decide +kernel), (by have e : k = 3 := (by omega); rw [e]; decide), (by omega)⟩
  by_cases c_5 : k = 4
  · refine g_swI (t := 76) hx (dq tX10_wordOf 1 rfl) c_5 (by decide) (by decide) rfl (by decide) ?_
    refine g_ldcS (n := 78) (q := 4) hx rfl rfl rfl (dq tX10_wordOf 10 rfl) rfl ?_
    exact g_sret (i := 4) hx hr (dq tX10_wordOf 11 rfl) ⟨rfl, (by have e : k = 4 := (by omega); rw [e]; decide +kernel), (by unfold LW; decide +kernel), (by have e : k = 4 := (by omega); rw [e]; decide), (by omega)⟩
  by_cases c_6 : k = 5
  · refine g_swI (t := 79) hx (dq tX10_wordOf 1 rfl) c_6 (by decide) (by decide) rfl (by decide) ?_
    refine g_ldcS (n := 81) (q := 5) hx rfl rfl rfl (dq tX10_wordOf 12 rfl) rfl ?_
    exact g_sret (i := 5) hx hr (dq tX10_wordOf 13 rfl) ⟨rfl, (by have e : k = 5 := (by omega); rw [e]; decide +kernel), (by unfold LW; decide +kernel), (by have e : k = 5 := (by omega); rw [e]; decide), (by omega)⟩
  by_cases c_7 : k = 6
  · refine g_swI (t := 82) hx (dq tX10_wordOf 1 rfl) c_7 (by decide) (by decide) rfl (by decide) ?_
    refine g_ldcS (n := 84) (q := 6) hx rfl rfl rfl (dq tX10_wordOf 14 rfl) rfl ?_
    exact g_sret (i := 6) hx hr (dq tX10_wordOf 15 rfl) ⟨rfl, (by have e : k = 6 := (by omega); rw [e]; decide +kernel), (by unfold LW; decide +kernel), (by have e : k = 6 := (by omega); rw [e]; decide), (by omega)⟩
  by_cases c_8 : k = 7
  · refine g_swI (t := 85) hx (dq tX10_wordOf 1 rfl) c_8 (by decide) (by decide) rfl (by decide) ?_
    refine g_ldcS (n := 87) (q := 7) hx rfl rfl rfl (dq tX10_wordOf 16 rfl) rfl ?_
    exact g_sret (i := 7) hx hr (dq tX10_wordOf 17 rfl) ⟨rfl, (by have e : k = 7 := (by omega); rw [e]; decide +kernel), (by unfold LW; decide +kernel), (by have e : k = 7 := (by omega); rw [e]; decide), (by omega)⟩
  by_cases c_9 : k = 8
  · refine g_swI (t := 88) hx (dq tX10_wordOf 1 rfl) c_9 (by decide) (by decide) rfl (by decide) ?_
    refine g_ldcS (n := 90) (q := 8) hx rfl rfl rfl (dq tX10_wordOf 18 rfl) rfl ?_
    exact g_sret (i := 8) hx hr (dq tX10_wordOf 19 rfl) ⟨rfl, (by have e : k = 8 := (by omega); rw [e]; decide +kernel), (by unfold LW; decide +kernel), (by have e : k = 8 := (by omega); rw [e]; decide), (by omega)⟩
  by_cases c_10 : k = 9
  · refine g_swI (t := 91) hx (dq tX10_wordOf 1 rfl) c_10 (by decide) (by decide) rfl (by decide) ?_
    refine g_ldcS (n := 93) (q := 9) hx rfl rfl rfl (dq tX10_wordOf 20 rfl) rfl ?_
    exact g_sret (i := 9) hx hr (dq tX10_wordOf 21 rfl) ⟨rfl, (by have e : k = 9 := (by omega); rw [e]; decide +kernel), (by unfold LW; decide +kernel), (by have e : k = 9 := (by omega); rw [e]; decide), (by omega)⟩
  by_cases c_11 : k = 10
  · refine g_swI (t := 94) hx (dq tX10_wordOf 1 rfl) c_11 (by decide) (by decide) rfl (by decide) ?_
    refine g_ldcS (n := 96) (q := 10) hx rfl rfl rfl (dq tX10_wordOf 22 rfl) rfl ?_
    exact g_sret (i := 10) hx hr (dq tX10_wordOf 23 rfl) ⟨rfl, (by have e : k = 10 := (by omega); rw [e]; decide +kernel), (by unfold LW; decide +kernel), (by have e : k = 10 := (by omega); rw [e]; decide), (by omega)⟩
  by_cases c_12 : k = 11
  · refine g_swI (t := 97) hx (dq tX10_wordOf 1 rfl) c_12 (by decide) (by decide) rfl (by decide) ?_
    refine g_ldcS (n := 99) (q := 11) hx rfl rfl rfl (dq tX10_wordOf 24 rfl) rfl ?_
    exact g_sret (i := 11) hx hr (dq tX10_wordOf 25 rfl) ⟨rfl, (by have e : k = 11 := (by omega); rw [e]; decide +kernel), (by unfold LW; decide +kernel), (by have e : k = 11 := (by omega); rw [e]; decide), (by omega)⟩
  refine g_swO (t := 100) hx (dq tX10_wordOf 1 rfl) (zrI hkl hku (by decide) (by decide)) (by omega) (by decide) ?_
  refine g_ldcS (n := 102) (q := 12) hx rfl rfl rfl (dq tX10_wordOf 26 rfl) rfl ?_
  exact g_sret (i := 12) hx hr (dq tX10_wordOf 27 rfl) ⟨rfl, (by have e : k = 12 := (by omega); rw [e]; decide +kernel), (by unfold LW; decide +kernel), (by have e : k = 12 := (by omega); rw [e]; decide), (by omega)⟩

abbrev qctX10_actWord3 (M : zM) (k : Int) (z : Nat) (M' : zM) : Prop := M = M' ∧ (csL z = wAct.getD k.toNat []) ∧ (LW z) ∧ (sln z = alF k) ∧ (z < 25)
set_option maxHeartbeats 4000000 in
set_option maxRecDepth 100000 in
theorem ctX10_actWord3 (Γ : Gam) (M : zM) (k : Int) (hkl : 0 ≤ k) (hku : k ≤ 4)  : CtS Γ yX10_actWord cX10_actWord 1 (some (.object "java/lang/String")) 0 0 [vI k] M (qctX10_actWord3 M k) := by
  refine met_s (by decide) (Nat.le_of_ble_eq_true rfl) (fun x hx hr => ?_)
  show G Γ x 1 (QS Γ x (qctX10_actWord3 M k)) M 0 [(0, vI k)] []
  refine g_iload_n (n := 1) hx 0 (dq tX10_actWord 0 rfl) rfl rfl ?_
  by_cases c_1 : k = 0
  · refine g_swI (t := 32) hx (dq tX10_actWord 1 rfl) c_1 (by decide) (by decide) rfl (by decide) ?_
    refine g_ldcwS (n := 35) (q := 19) hx rfl rfl rfl (dq tX10_actWord 2 rfl) rfl ?_
    exact g_sret (i := 19) hx hr (dq tX10_actWord 3 rfl) ⟨rfl, (by have e : k = 0 := (by omega); rw [e]; decide +kernel), (by unfold LW; decide +kernel), (by have e : k = 0 := (by omega); rw [e]; decide), (by omega)⟩
  by_cases c_2 : k = 1
  · refine g_swI (t := 36) hx (dq tX10_actWord 1 rfl) c_2 (by decide) (by decide) rfl (by decide) ?_
    refine g_ldcwS (n := 39) (q := 20) hx rfl rfl rfl (dq tX10_actWord 4 rfl) rfl ?_
    exact g_sret (i := 20) hx hr (dq tX10_actWord 5 rfl) ⟨rfl, (by have e : k = 1 := (by omega); rw [e]; decide +kernel), (by unfold LW; decide +kernel), (by have e : k = 1 := (by omega); rw [e]; decide), (by omega)⟩
  by_cases c_3 : k = 2
  · refine g_swI (t := 40) hx (dq tX10_actWord 1 rfl) c_3 (by decide) (by decide) rfl (by decide) ?_
    refine g_ldcwS (n := 43) (q := 21) hx rfl rfl rfl (dq tX10_actWord 6 rfl) rfl ?_
    exact g_sret (i := 21) hx hr (dq tX10_actWord 7 rfl) ⟨rfl, (by have e : k = 2 := (by omega); rw [e]; decide +kernel), (by unfold LW; decide +kernel), (by have e : k = 2 := (by omega); rw [e]; decide), (by omega)⟩
  by_cases c_4 : k = 3
  · refine g_swI (t := 44) hx (dq tX10_actWord 1 rfl) c_4 (by decide) (by decide) rfl (by decide) ?_
    refine g_ldcwS (n := 47) (q := 22) hx rfl rfl rfl (dq tX10_actWord 8 rfl) rfl ?_
    exact g_sret (i := 22) hx hr (dq tX10_actWord 9 rfl) ⟨rfl, (by have e : k = 3 := (by omega); rw [e]; decide +kernel), (by unfold LW; decide +kernel), (by have e : k = 3 := (by omega); rw [e]; decide), (by omega)⟩
  refine g_swO (t := 48) hx (dq tX10_actWord 1 rfl) (zrI hkl hku (by decide) (by decide)) (by omega) (by decide) ?_
  refine g_ldcwS (n := 51) (q := 23) hx rfl rfl rfl (dq tX10_actWord 10 rfl) rfl ?_
  exact g_sret (i := 23) hx hr (dq tX10_actWord 11 rfl) ⟨rfl, (by have e : k = 4 := (by omega); rw [e]; decide +kernel), (by unfold LW; decide +kernel), (by have e : k = 4 := (by omega); rw [e]; decide), (by omega)⟩

abbrev qctX10_stood3 (M : zM) (w : Nat) (t9 : Nat → Int) (n9 : Nat) (a9 : Nat) (z : Int) (M' : zM) : Prop := M = M' ∧ 0 ≤ z ∧ z ≤ 1 ∧ ((z = 1 ∧ isw t9 n9 a9 (csL w) = true ∧ stp t9 n9 a9 = a9 + sln w ∧ M 229 38 + sln w ≤ M 229 37) ∨ (z = 0 ∧ ¬ isw t9 n9 a9 (csL w) = true))
set_option maxHeartbeats 4000000 in
set_option maxRecDepth 100000 in
theorem ctX10_stood3 (Γ : Gam) (M : zM) (w : Nat) (qw : String × Nat × String × Nat) (hw : sN[w]? = some qw) (hwn : qw.2.2.2 ≤ 100) (t9 : Nat → Int) (n9 : Nat) (a9 : Nat) (pre0 : 1 ≤ sln w) (pre1 : M 229 38 = a9) (ex0 : Ty M t9 n9) (ex1 : LW w) : CtI Γ yX10_stood cX10_stood 5 (some .boolean) 4 85 [aR Γ 229, sR Γ w] M (qctX10_stood3 M w t9 n9 a9) := by
  refine met_i (by decide) (Nat.le_of_ble_eq_true rfl) (fun x hx hr => ?_)
  show G Γ x 5 (QI Γ x (qctX10_stood3 M w t9 n9 a9)) M 0 [(0, aR Γ 229), (1, sR Γ w)] []
  refine g_iv (fun hI0 => ?_)
  have hI_37 : (0 : Int) ≤ M 229 37 ∧ M 229 37 ≤ 400 := hI0 229 37
  have hI_38 : (0 : Int) ≤ M 229 38 ∧ M 229 38 ≤ 402 := hI0 229 38
  have hI_45 : (0 : Int) ≤ M 229 45 ∧ M 229 45 ≤ 402 := hI0 229 45
  have hI_42 : (0 : Int) ≤ M 229 42 ∧ M 229 42 ≤ 300 := hI0 229 42
  have hI_39 : (0 : Int) ≤ M 229 39 ∧ M 229 39 ≤ 100000 := hI0 229 39
  have hI_40 : (0 : Int) ≤ M 229 40 ∧ M 229 40 ≤ 5 := hI0 229 40
  have hI_41 : (0 : Int) ≤ M 229 41 ∧ M 229 41 ≤ 6 := hI0 229 41
  clear hI0
  have hty_n := ex0.1
  have hLW := ex1
  have hw32 := sN_lt hw
  have hcl := csL_len hw
  have hwl := sln_eq hw
  have hcl2 : sln w = (csL w).length := by rw [hcl, hwl]
  refine g_aload_n (n := 1) hx 0 (dq tX10_stood 0 rfl) rfl rfl ?_
  refine g_getI (n := 4) hx glX10_249 (sX10_38 (by decide)) (dq tX10_stood 1 rfl) rfl (fun h_1l h_1u => ?_)
  refine g_istore_n (n := 5) (lv' := [(2, vI (M 229 38)), (0, aR Γ 229), (1, sR Γ w)]) hx (dq tX10_stood 2 rfl) (by decide) rfl rfl ?_
  have L_3 : ∀ (n_ : Nat) (i_2 : Int), (0 ≤ i_2) → (i_2 ≤ 402) → (M 229 38 ≤ i_2) → (i_2 = M 229 38 ∨ i_2 ≤ M 229 37) → (wh t9 n9 97 122 i_2.toNat = wh t9 n9 97 122 a9) → ((402 - i_2).toNat = n_) → G Γ x 5 (QI Γ x (qctX10_stood3 M w t9 n9 a9)) M 5 [(2, vI i_2), (0, aR Γ 229), (1, sR Γ w)] [] := by
    intro n_
    induction n_ using Nat.strongRecOn with
    | _ n_ ih_4 =>
      intro i_2 h_10 h_11 h_7 h_8 h_9 hm_6
      refine g_iload_n (n := 6) hx 0 (dq tX10_stood 3 rfl) rfl rfl ?_
      refine g_aload_n (n := 7) hx 1 (dq tX10_stood 4 rfl) rfl rfl ?_
      refine g_getI (n := 10) hx glX10_216 (sX10_37 (by decide)) (dq tX10_stood 5 rfl) rfl (fun h_12l h_12u => ?_)
      refine g_icmp_ge (n := 13) (t := 41) hx (dq tX10_stood 6 rfl) (by decide) rfl ⟨by omega, by omega⟩ (zrI h_12l h_12u (by decide) (by decide)) (fun c_13 => ?_) (fun c_13 => ?_)
      · refine g_iload_n (n := 42) hx 0 (dq tX10_stood 21 rfl) rfl rfl ?_
        refine g_aload_n (n := 43) hx 1 (dq tX10_stood 22 rfl) rfl rfl ?_
        refine g_getI (n := 46) hx glX10_249 (sX10_38 (by decide)) (dq tX10_stood 23 rfl) rfl (fun h_14l h_14u => ?_)
        refine g_isub (n := 47) hx (dq tX10_stood 24 rfl) rfl ?_
        refine g_aload_nS (n := 48) hx 2 (dq tX10_stood 25 rfl) rfl rfl ?_
        refine g_callSt (n := 51) (As := []) (rest := [vI (i_2 - (M 229 38))]) hx (ctJ0_length_8abf5 Γ M w _ hw) mlX10_260 rfl hw (dq tX10_stood 26 rfl) rfl (Nat.le_of_ble_eq_true rfl) (Nat.le_of_ble_eq_true rfl) (Nat.le_of_ble_eq_true rfl) rfl (fun z_15 M_16 h_17 p_18 => ?_)
        obtain ⟨rfl, h_19⟩ := p_18
        refine g_icmp_ne (n := 54) (t := 58) hx (dq tX10_stood 27 rfl) (by decide) rfl ⟨by omega, by omega⟩ h_17 (fun c_20 => ?_) (fun c_20 => ?_)
        · refine g_iconst (n := 59) hx (dq tX10_stood 30 rfl) rfl ?_
          refine g_istore_n (n := 60) (lv' := [(3, vI 0), (2, vI i_2), (0, aR Γ 229), (1, sR Γ w)]) hx (dq tX10_stood 31 rfl) (by decide) rfl rfl ?_
          refine g_iconst (n := 61) hx (dq tX10_stood 32 rfl) rfl ?_
          refine g_istore (n := 63) (lv' := [(4, vI 0), (3, vI 0), (2, vI i_2), (0, aR Γ 229), (1, sR Γ w)]) hx (dq tX10_stood 33 rfl) (by decide) rfl rfl ?_
          have L_23 : ∀ (n_ : Nat) (i_21 : Int) (i_22 : Int), (0 ≤ i_21) → (i_21 ≤ 100) → (0 ≤ i_22) → (i_22 ≤ 1) → (SD t9 a9 (i_2 - (a9 : Int) = ((sln w : Nat) : Int)) (csL w) i_21 i_22) → ((i_22 = 0 ∨ i_2 - M 229 38 = sln w)) → (i_21 ≤ sln w) → ((100 - i_21).toNat = n_) → G Γ x 5 (QI Γ x (qctX10_stood3 M w t9 n9 a9)) M 63 [(4, vI i_21), (3, vI i_22), (2, vI i_2), (0, aR Γ 229), (1, sR Γ w)] [] := by
            intro n_
            induction n_ using Nat.strongRecOn with
            | _ n_ ih_24 =>
              intro i_21 i_22 h_30 h_31 h_32 h_33 h_27 h_28 h_29 hm_26
              refine g_iload (n := 65) hx 0 (dq tX10_stood 34 rfl) rfl rfl ?_
              refine g_aload_nS (n := 66) hx 4 (dq tX10_stood 35 rfl) rfl rfl ?_
              refine g_callSt (n := 69) (As := []) (rest := [vI i_21]) hx (ctJ0_length_8abf5 Γ M w _ hw) mlX10_260 rfl hw (dq tX10_stood 36 rfl) rfl (Nat.le_of_ble_eq_true rfl) (Nat.le_of_ble_eq_true rfl) (Nat.le_of_ble_eq_true rfl) rfl (fun z_34 M_35 h_36 p_37 => ?_)
              obtain ⟨rfl, h_38⟩ := p_37
              refine g_icmp_ge (n := 72) (t := 109) hx (dq tX10_stood 37 rfl) (by decide) rfl ⟨by omega, by omega⟩ h_36 (fun c_39 => ?_) (fun c_39 => ?_)
              · refine g_iload_n (n := 110) hx 1 (dq tX10_stood 57 rfl) rfl rfl ?_
                exact g_zret hx hr (dq tX10_stood 58 rfl) (by omega) ⟨rfl, (by omega), (by omega), (st_end hLW hcl2 h_9 (by omega) (by omega) (SD.end (i := w) h_27 (by omega)) (fun hz9 => by omega))⟩
              · refine g_iload_n (n := 73) hx 1 (dq tX10_stood 38 rfl) rfl rfl ?_
                refine g_if_eq (n := 76) (t := 109) hx (dq tX10_stood 39 rfl) (by decide) rfl ⟨by omega, by omega⟩ (fun c_40 => ?_) (fun c_40 => ?_)
                · refine g_iload_n (n := 110) hx 1 (dq tX10_stood 57 rfl) rfl rfl ?_
                  exact g_zret hx hr (dq tX10_stood 58 rfl) (by omega) ⟨rfl, (by omega), (by omega), (st_end hLW hcl2 h_9 (by omega) (by omega) (SD.end (i := w) h_27 (by omega)) (fun hz9 => by omega))⟩
                · refine g_aload_n (n := 77) hx 3 (dq tX10_stood 40 rfl) rfl rfl ?_
                  refine g_getR (n := 80) hx glX10_122 (sX10_48 (by decide)) (dq tX10_stood 41 rfl) rfl ?_
                  refine g_aload_n (n := 81) hx 3 (dq tX10_stood 42 rfl) rfl rfl ?_
                  refine g_getI (n := 84) hx glX10_249 (sX10_38 (by decide)) (dq tX10_stood 43 rfl) rfl (fun h_41l h_41u => ?_)
                  refine g_iload (n := 86) hx 0 (dq tX10_stood 44 rfl) rfl rfl ?_
                  refine g_iadd (n := 87) hx (dq tX10_stood 45 rfl) rfl ?_
                  refine g_bald (n := 88) (q := ((M 229 38) + i_21).toNat) hx (aX10_48 (b := 229) (by decide)) (dq tX10_stood 46 rfl) rfl (by omega) (by omega) (by omega) rfl (fun h_42l h_42u => ?_)
                  have h_42l : (-128) ≤ M (229 + 37) (((M 229 38) + i_21).toNat) := h_42l
                  have h_42u : M (229 + 37) (((M 229 38) + i_21).toNat) ≤ 127 := h_42u
                  have h_43 : M (229 + 37) (((M 229 38) + i_21).toNat) % 256 = t9 (((M 229 38) + i_21).toNat) := ex0.2 (((M 229 38) + i_21).toNat) (by omega)
                  have h_44 : t9 (((M 229 38) + i_21).toNat) = t9 (a9 + i_21.toNat) := congrArg t9 (by omega)
                  refine g_aload_nS (n := 89) hx 4 (dq tX10_stood 47 rfl) rfl rfl ?_
                  refine g_iload (n := 91) hx 0 (dq tX10_stood 48 rfl) rfl rfl ?_
                  refine g_callSt (n := 94) (As := [vI i_21]) (rest := [vI (M (229 + 37) (((M 229 38) + i_21).toNat))]) hx (ctJ0_charAt_5068e2 Γ M w _ hw i_21 (by omega) (by omega)) mlX10_264 rfl hw (dq tX10_stood 49 rfl) rfl (Nat.le_of_ble_eq_true rfl) (Nat.le_of_ble_eq_true rfl) (Nat.le_of_ble_eq_true rfl) rfl (fun z_45 M_46 h_47 p_48 => ?_)
                  obtain ⟨rfl, h_49⟩ := p_48
                  have h_49r := sbt_rg0 w (by first | decide | omega) i_21.toNat (by omega)
                  refine g_icmp_ne (n := 97) (t := 101) hx (dq tX10_stood 50 rfl) (by decide) rfl (zrI h_42l h_42u (by decide) (by decide)) h_47 (fun c_50 => ?_) (fun c_50 => ?_)
                  · refine g_iconst (n := 102) hx (dq tX10_stood 53 rfl) rfl ?_
                    refine g_istore_n (n := 103) (lv' := [(3, vI 0), (4, vI i_21), (2, vI i_2), (0, aR Γ 229), (1, sR Γ w)]) hx (dq tX10_stood 54 rfl) (by decide) rfl rfl ?_
                    refine g_iinc (n := 106) (lv' := [(4, vI (i_21 + 1)), (3, vI 0), (2, vI i_2), (0, aR Γ 229), (1, sR Γ w)]) hx 1 (dq tX10_stood 55 rfl) rfl (by decide) rfl rfl ?_
                    refine g_goto (n := 63) hx (dq tX10_stood 56 rfl) (by decide) ?_
                    exact ih_24 _ (by omega) (i_21 + 1) 0 (by omega) (by omega) (by omega) (by omega) (SD.go (i := w) h_27 (by omega) (by omega) (by omega) (by omega) (by omega)) (by omega) (by omega) rfl
                  · refine g_iconst (n := 98) hx (dq tX10_stood 51 rfl) rfl ?_
                    refine g_goto (n := 102) hx (dq tX10_stood 52 rfl) (by decide) ?_
                    refine g_istore_n (n := 103) (lv' := [(3, vI 1), (4, vI i_21), (2, vI i_2), (0, aR Γ 229), (1, sR Γ w)]) hx (dq tX10_stood 54 rfl) (by decide) rfl rfl ?_
                    refine g_iinc (n := 106) (lv' := [(4, vI (i_21 + 1)), (3, vI 1), (2, vI i_2), (0, aR Γ 229), (1, sR Γ w)]) hx 1 (dq tX10_stood 55 rfl) rfl (by decide) rfl rfl ?_
                    refine g_goto (n := 63) hx (dq tX10_stood 56 rfl) (by decide) ?_
                    exact ih_24 _ (by omega) (i_21 + 1) 1 (by omega) (by omega) (by omega) (by omega) (SD.go (i := w) h_27 (by omega) (by omega) (by omega) (by omega) (by omega)) (by omega) (by omega) rfl
          exact L_23 _ 0 0 (by omega) (by omega) (by omega) (by omega) (SD.no (by omega)) (by omega) (by omega) rfl
        · refine g_iconst (n := 55) hx (dq tX10_stood 28 rfl) rfl ?_
          refine g_goto (n := 59) hx (dq tX10_stood 29 rfl) (by decide) ?_
          refine g_istore_n (n := 60) (lv' := [(3, vI 1), (2, vI i_2), (0, aR Γ 229), (1, sR Γ w)]) hx (dq tX10_stood 31 rfl) (by decide) rfl rfl ?_
          refine g_iconst (n := 61) hx (dq tX10_stood 32 rfl) rfl ?_
          refine g_istore (n := 63) (lv' := [(4, vI 0), (3, vI 1), (2, vI i_2), (0, aR Γ 229), (1, sR Γ w)]) hx (dq tX10_stood 33 rfl) (by decide) rfl rfl ?_
          have L_53 : ∀ (n_ : Nat) (i_51 : Int) (i_52 : Int), (0 ≤ i_51) → (i_51 ≤ 100) → (0 ≤ i_52) → (i_52 ≤ 1) → (SD t9 a9 (i_2 - (a9 : Int) = ((sln w : Nat) : Int)) (csL w) i_51 i_52) → ((i_52 = 0 ∨ i_2 - M 229 38 = sln w)) → (i_51 ≤ sln w) → ((100 - i_51).toNat = n_) → G Γ x 5 (QI Γ x (qctX10_stood3 M w t9 n9 a9)) M 63 [(4, vI i_51), (3, vI i_52), (2, vI i_2), (0, aR Γ 229), (1, sR Γ w)] [] := by
            intro n_
            induction n_ using Nat.strongRecOn with
            | _ n_ ih_54 =>
              intro i_51 i_52 h_60 h_61 h_62 h_63 h_57 h_58 h_59 hm_56
              refine g_iload (n := 65) hx 0 (dq tX10_stood 34 rfl) rfl rfl ?_
              refine g_aload_nS (n := 66) hx 4 (dq tX10_stood 35 rfl) rfl rfl ?_
              refine g_callSt (n := 69) (As := []) (rest := [vI i_51]) hx (ctJ0_length_8abf5 Γ M w _ hw) mlX10_260 rfl hw (dq tX10_stood 36 rfl) rfl (Nat.le_of_ble_eq_true rfl) (Nat.le_of_ble_eq_true rfl) (Nat.le_of_ble_eq_true rfl) rfl (fun z_64 M_65 h_66 p_67 => ?_)
              obtain ⟨rfl, h_68⟩ := p_67
              refine g_icmp_ge (n := 72) (t := 109) hx (dq tX10_stood 37 rfl) (by decide) rfl ⟨by omega, by omega⟩ h_66 (fun c_69 => ?_) (fun c_69 => ?_)
              · refine g_iload_n (n := 110) hx 1 (dq tX10_stood 57 rfl) rfl rfl ?_
                exact g_zret hx hr (dq tX10_stood 58 rfl) (by omega) ⟨rfl, (by omega), (by omega), (st_end hLW hcl2 h_9 (by omega) (by omega) (SD.end (i := w) h_57 (by omega)) (fun hz9 => by omega))⟩
              · refine g_iload_n (n := 73) hx 1 (dq tX10_stood 38 rfl) rfl rfl ?_
                refine g_if_eq (n := 76) (t := 109) hx (dq tX10_stood 39 rfl) (by decide) rfl ⟨by omega, by omega⟩ (fun c_70 => ?_) (fun c_70 => ?_)
                · refine g_iload_n (n := 110) hx 1 (dq tX10_stood 57 rfl) rfl rfl ?_
                  exact g_zret hx hr (dq tX10_stood 58 rfl) (by omega) ⟨rfl, (by omega), (by omega), (st_end hLW hcl2 h_9 (by omega) (by omega) (SD.end (i := w) h_57 (by omega)) (fun hz9 => by omega))⟩
                · refine g_aload_n (n := 77) hx 3 (dq tX10_stood 40 rfl) rfl rfl ?_
                  refine g_getR (n := 80) hx glX10_122 (sX10_48 (by decide)) (dq tX10_stood 41 rfl) rfl ?_
                  refine g_aload_n (n := 81) hx 3 (dq tX10_stood 42 rfl) rfl rfl ?_
                  refine g_getI (n := 84) hx glX10_249 (sX10_38 (by decide)) (dq tX10_stood 43 rfl) rfl (fun h_71l h_71u => ?_)
                  refine g_iload (n := 86) hx 0 (dq tX10_stood 44 rfl) rfl rfl ?_
                  refine g_iadd (n := 87) hx (dq tX10_stood 45 rfl) rfl ?_
                  refine g_bald (n := 88) (q := ((M 229 38) + i_51).toNat) hx (aX10_48 (b := 229) (by decide)) (dq tX10_stood 46 rfl) rfl (by omega) (by omega) (by omega) rfl (fun h_72l h_72u => ?_)
                  have h_72l : (-128) ≤ M (229 + 37) (((M 229 38) + i_51).toNat) := h_72l
                  have h_72u : M (229 + 37) (((M 229 38) + i_51).toNat) ≤ 127 := h_72u
                  have h_73 : M (229 + 37) (((M 229 38) + i_51).toNat) % 256 = t9 (((M 229 38) + i_51).toNat) := ex0.2 (((M 229 38) + i_51).toNat) (by omega)
                  have h_74 : t9 (((M 229 38) + i_51).toNat) = t9 (a9 + i_51.toNat) := congrArg t9 (by omega)
                  refine g_aload_nS (n := 89) hx 4 (dq tX10_stood 47 rfl) rfl rfl ?_
                  refine g_iload (n := 91) hx 0 (dq tX10_stood 48 rfl) rfl rfl ?_
                  refine g_callSt (n := 94) (As := [vI i_51]) (rest := [vI (M (229 + 37) (((M 229 38) + i_51).toNat))]) hx (ctJ0_charAt_5068e2 Γ M w _ hw i_51 (by omega) (by omega)) mlX10_264 rfl hw (dq tX10_stood 49 rfl) rfl (Nat.le_of_ble_eq_true rfl) (Nat.le_of_ble_eq_true rfl) (Nat.le_of_ble_eq_true rfl) rfl (fun z_75 M_76 h_77 p_78 => ?_)
                  obtain ⟨rfl, h_79⟩ := p_78
                  have h_79r := sbt_rg0 w (by first | decide | omega) i_51.toNat (by omega)
                  refine g_icmp_ne (n := 97) (t := 101) hx (dq tX10_stood 50 rfl) (by decide) rfl (zrI h_72l h_72u (by decide) (by decide)) h_77 (fun c_80 => ?_) (fun c_80 => ?_)
                  · refine g_iconst (n := 102) hx (dq tX10_stood 53 rfl) rfl ?_
                    refine g_istore_n (n := 103) (lv' := [(3, vI 0), (4, vI i_51), (2, vI i_2), (0, aR Γ 229), (1, sR Γ w)]) hx (dq tX10_stood 54 rfl) (by decide) rfl rfl ?_
                    refine g_iinc (n := 106) (lv' := [(4, vI (i_51 + 1)), (3, vI 0), (2, vI i_2), (0, aR Γ 229), (1, sR Γ w)]) hx 1 (dq tX10_stood 55 rfl) rfl (by decide) rfl rfl ?_
                    refine g_goto (n := 63) hx (dq tX10_stood 56 rfl) (by decide) ?_
                    exact ih_54 _ (by omega) (i_51 + 1) 0 (by omega) (by omega) (by omega) (by omega) (SD.go (i := w) h_57 (by omega) (by omega) (by omega) (by omega) (by omega)) (by omega) (by omega) rfl
                  · refine g_iconst (n := 98) hx (dq tX10_stood 51 rfl) rfl ?_
                    refine g_goto (n := 102) hx (dq tX10_stood 52 rfl) (by decide) ?_
                    refine g_istore_n (n := 103) (lv' := [(3, vI 1), (4, vI i_51), (2, vI i_2), (0, aR Γ 229), (1, sR Γ w)]) hx (dq tX10_stood 54 rfl) (by decide) rfl rfl ?_
                    refine g_iinc (n := 106) (lv' := [(4, vI (i_51 + 1)), (3, vI 1), (2, vI i_2), (0, aR Γ 229), (1, sR Γ w)]) hx 1 (dq tX10_stood 55 rfl) rfl (by decide) rfl rfl ?_
                    refine g_goto (n := 63) hx (dq tX10_stood 56 rfl) (by decide) ?_
                    exact ih_54 _ (by omega) (i_51 + 1) 1 (by omega) (by omega) (by omega) (by omega) (SD.go (i := w) h_57 (by omega) (by omega) (by omega) (by omega) (by omega)) (by omega) (by omega) rfl
          exact L_53 _ 0 1 (by omega) (by omega) (by omega) (by omega) (SD.yes (by omega)) (by omega) (by omega) rfl
      · refine g_aload_n (n := 14) hx 1 (dq tX10_stood 7 rfl) rfl rfl ?_
        refine g_getR (n := 17) hx glX10_122 (sX10_48 (by decide)) (dq tX10_stood 8 rfl) rfl ?_
        refine g_iload_n (n := 18) hx 0 (dq tX10_stood 9 rfl) rfl rfl ?_
        refine g_bald (n := 19) (q := i_2.toNat) hx (aX10_48 (b := 229) (by decide)) (dq tX10_stood 10 rfl) rfl (by omega) (by omega) (by omega) rfl (fun h_81l h_81u => ?_)
        have h_81l : (-128) ≤ M (229 + 37) i_2.toNat := h_81l
        have h_81u : M (229 + 37) i_2.toNat ≤ 127 := h_81u
        have h_82 : M (229 + 37) i_2.toNat % 256 = t9 i_2.toNat := ex0.2 i_2.toNat (by omega)
        refine g_bipush (n := 21) hx (dq tX10_stood 11 rfl) rfl (by decide) ?_
        refine g_icmp_lt (n := 24) (t := 41) hx (dq tX10_stood 12 rfl) (by decide) rfl (zrI h_81l h_81u (by decide) (by decide)) ⟨by decide, by decide⟩ (fun c_83 => ?_) (fun c_83 => ?_)
        · refine g_iload_n (n := 42) hx 0 (dq tX10_stood 21 rfl) rfl rfl ?_
          refine g_aload_n (n := 43) hx 1 (dq tX10_stood 22 rfl) rfl rfl ?_
          refine g_getI (n := 46) hx glX10_249 (sX10_38 (by decide)) (dq tX10_stood 23 rfl) rfl (fun h_84l h_84u => ?_)
          refine g_isub (n := 47) hx (dq tX10_stood 24 rfl) rfl ?_
          refine g_aload_nS (n := 48) hx 2 (dq tX10_stood 25 rfl) rfl rfl ?_
          refine g_callSt (n := 51) (As := []) (rest := [vI (i_2 - (M 229 38))]) hx (ctJ0_length_8abf5 Γ M w _ hw) mlX10_260 rfl hw (dq tX10_stood 26 rfl) rfl (Nat.le_of_ble_eq_true rfl) (Nat.le_of_ble_eq_true rfl) (Nat.le_of_ble_eq_true rfl) rfl (fun z_85 M_86 h_87 p_88 => ?_)
          obtain ⟨rfl, h_89⟩ := p_88
          refine g_icmp_ne (n := 54) (t := 58) hx (dq tX10_stood 27 rfl) (by decide) rfl ⟨by omega, by omega⟩ h_87 (fun c_90 => ?_) (fun c_90 => ?_)
          · refine g_iconst (n := 59) hx (dq tX10_stood 30 rfl) rfl ?_
            refine g_istore_n (n := 60) (lv' := [(3, vI 0), (2, vI i_2), (0, aR Γ 229), (1, sR Γ w)]) hx (dq tX10_stood 31 rfl) (by decide) rfl rfl ?_
            refine g_iconst (n := 61) hx (dq tX10_stood 32 rfl) rfl ?_
            refine g_istore (n := 63) (lv' := [(4, vI 0), (3, vI 0), (2, vI i_2), (0, aR Γ 229), (1, sR Γ w)]) hx (dq tX10_stood 33 rfl) (by decide) rfl rfl ?_
            have L_93 : ∀ (n_ : Nat) (i_91 : Int) (i_92 : Int), (0 ≤ i_91) → (i_91 ≤ 100) → (0 ≤ i_92) → (i_92 ≤ 1) → (SD t9 a9 (i_2 - (a9 : Int) = ((sln w : Nat) : Int)) (csL w) i_91 i_92) → ((i_92 = 0 ∨ i_2 - M 229 38 = sln w)) → (i_91 ≤ sln w) → ((100 - i_91).toNat = n_) → G Γ x 5 (QI Γ x (qctX10_stood3 M w t9 n9 a9)) M 63 [(4, vI i_91), (3, vI i_92), (2, vI i_2), (0, aR Γ 229), (1, sR Γ w)] [] := by
              intro n_
              induction n_ using Nat.strongRecOn with
              | _ n_ ih_94 =>
                intro i_91 i_92 h_100 h_101 h_102 h_103 h_97 h_98 h_99 hm_96
                refine g_iload (n := 65) hx 0 (dq tX10_stood 34 rfl) rfl rfl ?_
                refine g_aload_nS (n := 66) hx 4 (dq tX10_stood 35 rfl) rfl rfl ?_
                refine g_callSt (n := 69) (As := []) (rest := [vI i_91]) hx (ctJ0_length_8abf5 Γ M w _ hw) mlX10_260 rfl hw (dq tX10_stood 36 rfl) rfl (Nat.le_of_ble_eq_true rfl) (Nat.le_of_ble_eq_true rfl) (Nat.le_of_ble_eq_true rfl) rfl (fun z_104 M_105 h_106 p_107 => ?_)
                obtain ⟨rfl, h_108⟩ := p_107
                refine g_icmp_ge (n := 72) (t := 109) hx (dq tX10_stood 37 rfl) (by decide) rfl ⟨by omega, by omega⟩ h_106 (fun c_109 => ?_) (fun c_109 => ?_)
                · refine g_iload_n (n := 110) hx 1 (dq tX10_stood 57 rfl) rfl rfl ?_
                  exact g_zret hx hr (dq tX10_stood 58 rfl) (by omega) ⟨rfl, (by omega), (by omega), (st_end hLW hcl2 h_9 (by omega) (by omega) (SD.end (i := w) h_97 (by omega)) (fun hz9 => by omega))⟩
                · refine g_iload_n (n := 73) hx 1 (dq tX10_stood 38 rfl) rfl rfl ?_
                  refine g_if_eq (n := 76) (t := 109) hx (dq tX10_stood 39 rfl) (by decide) rfl ⟨by omega, by omega⟩ (fun c_110 => ?_) (fun c_110 => ?_)
                  · refine g_iload_n (n := 110) hx 1 (dq tX10_stood 57 rfl) rfl rfl ?_
                    exact g_zret hx hr (dq tX10_stood 58 rfl) (by omega) ⟨rfl, (by omega), (by omega), (st_end hLW hcl2 h_9 (by omega) (by omega) (SD.end (i := w) h_97 (by omega)) (fun hz9 => by omega))⟩
                  · refine g_aload_n (n := 77) hx 3 (dq tX10_stood 40 rfl) rfl rfl ?_
                    refine g_getR (n := 80) hx glX10_122 (sX10_48 (by decide)) (dq tX10_stood 41 rfl) rfl ?_
                    refine g_aload_n (n := 81) hx 3 (dq tX10_stood 42 rfl) rfl rfl ?_
                    refine g_getI (n := 84) hx glX10_249 (sX10_38 (by decide)) (dq tX10_stood 43 rfl) rfl (fun h_111l h_111u => ?_)
                    refine g_iload (n := 86) hx 0 (dq tX10_stood 44 rfl) rfl rfl ?_
                    refine g_iadd (n := 87) hx (dq tX10_stood 45 rfl) rfl ?_
                    refine g_bald (n := 88) (q := ((M 229 38) + i_91).toNat) hx (aX10_48 (b := 229) (by decide)) (dq tX10_stood 46 rfl) rfl (by omega) (by omega) (by omega) rfl (fun h_112l h_112u => ?_)
                    have h_112l : (-128) ≤ M (229 + 37) (((M 229 38) + i_91).toNat) := h_112l
                    have h_112u : M (229 + 37) (((M 229 38) + i_91).toNat) ≤ 127 := h_112u
                    have h_113 : M (229 + 37) (((M 229 38) + i_91).toNat) % 256 = t9 (((M 229 38) + i_91).toNat) := ex0.2 (((M 229 38) + i_91).toNat) (by omega)
                    have h_114 : t9 (((M 229 38) + i_91).toNat) = t9 (a9 + i_91.toNat) := congrArg t9 (by omega)
                    refine g_aload_nS (n := 89) hx 4 (dq tX10_stood 47 rfl) rfl rfl ?_
                    refine g_iload (n := 91) hx 0 (dq tX10_stood 48 rfl) rfl rfl ?_
                    refine g_callSt (n := 94) (As := [vI i_91]) (rest := [vI (M (229 + 37) (((M 229 38) + i_91).toNat))]) hx (ctJ0_charAt_5068e2 Γ M w _ hw i_91 (by omega) (by omega)) mlX10_264 rfl hw (dq tX10_stood 49 rfl) rfl (Nat.le_of_ble_eq_true rfl) (Nat.le_of_ble_eq_true rfl) (Nat.le_of_ble_eq_true rfl) rfl (fun z_115 M_116 h_117 p_118 => ?_)
                    obtain ⟨rfl, h_119⟩ := p_118
                    have h_119r := sbt_rg0 w (by first | decide | omega) i_91.toNat (by omega)
                    refine g_icmp_ne (n := 97) (t := 101) hx (dq tX10_stood 50 rfl) (by decide) rfl (zrI h_112l h_112u (by decide) (by decide)) h_117 (fun c_120 => ?_) (fun c_120 => ?_)
                    · refine g_iconst (n := 102) hx (dq tX10_stood 53 rfl) rfl ?_
                      refine g_istore_n (n := 103) (lv' := [(3, vI 0), (4, vI i_91), (2, vI i_2), (0, aR Γ 229), (1, sR Γ w)]) hx (dq tX10_stood 54 rfl) (by decide) rfl rfl ?_
                      refine g_iinc (n := 106) (lv' := [(4, vI (i_91 + 1)), (3, vI 0), (2, vI i_2), (0, aR Γ 229), (1, sR Γ w)]) hx 1 (dq tX10_stood 55 rfl) rfl (by decide) rfl rfl ?_
                      refine g_goto (n := 63) hx (dq tX10_stood 56 rfl) (by decide) ?_
                      exact ih_94 _ (by omega) (i_91 + 1) 0 (by omega) (by omega) (by omega) (by omega) (SD.go (i := w) h_97 (by omega) (by omega) (by omega) (by omega) (by omega)) (by omega) (by omega) rfl
                    · refine g_iconst (n := 98) hx (dq tX10_stood 51 rfl) rfl ?_
                      refine g_goto (n := 102) hx (dq tX10_stood 52 rfl) (by decide) ?_
                      refine g_istore_n (n := 103) (lv' := [(3, vI 1), (4, vI i_91), (2, vI i_2), (0, aR Γ 229), (1, sR Γ w)]) hx (dq tX10_stood 54 rfl) (by decide) rfl rfl ?_
                      refine g_iinc (n := 106) (lv' := [(4, vI (i_91 + 1)), (3, vI 1), (2, vI i_2), (0, aR Γ 229), (1, sR Γ w)]) hx 1 (dq tX10_stood 55 rfl) rfl (by decide) rfl rfl ?_
                      refine g_goto (n := 63) hx (dq tX10_stood 56 rfl) (by decide) ?_
                      exact ih_94 _ (by omega) (i_91 + 1) 1 (by omega) (by omega) (by omega) (by omega) (SD.go (i := w) h_97 (by omega) (by omega) (by omega) (by omega) (by omega)) (by omega) (by omega) rfl
            exact L_93 _ 0 0 (by omega) (by omega) (by omega) (by omega) (SD.no (by omega)) (by omega) (by omega) rfl
          · refine g_iconst (n := 55) hx (dq tX10_stood 28 rfl) rfl ?_
            refine g_goto (n := 59) hx (dq tX10_stood 29 rfl) (by decide) ?_
            refine g_istore_n (n := 60) (lv' := [(3, vI 1), (2, vI i_2), (0, aR Γ 229), (1, sR Γ w)]) hx (dq tX10_stood 31 rfl) (by decide) rfl rfl ?_
            refine g_iconst (n := 61) hx (dq tX10_stood 32 rfl) rfl ?_
            refine g_istore (n := 63) (lv' := [(4, vI 0), (3, vI 1), (2, vI i_2), (0, aR Γ 229), (1, sR Γ w)]) hx (dq tX10_stood 33 rfl) (by decide) rfl rfl ?_
            have L_123 : ∀ (n_ : Nat) (i_121 : Int) (i_122 : Int), (0 ≤ i_121) → (i_121 ≤ 100) → (0 ≤ i_122) → (i_122 ≤ 1) → (SD t9 a9 (i_2 - (a9 : Int) = ((sln w : Nat) : Int)) (csL w) i_121 i_122) → ((i_122 = 0 ∨ i_2 - M 229 38 = sln w)) → (i_121 ≤ sln w) → ((100 - i_121).toNat = n_) → G Γ x 5 (QI Γ x (qctX10_stood3 M w t9 n9 a9)) M 63 [(4, vI i_121), (3, vI i_122), (2, vI i_2), (0, aR Γ 229), (1, sR Γ w)] [] := by
              intro n_
              induction n_ using Nat.strongRecOn with
              | _ n_ ih_124 =>
                intro i_121 i_122 h_130 h_131 h_132 h_133 h_127 h_128 h_129 hm_126
                refine g_iload (n := 65) hx 0 (dq tX10_stood 34 rfl) rfl rfl ?_
                refine g_aload_nS (n := 66) hx 4 (dq tX10_stood 35 rfl) rfl rfl ?_
                refine g_callSt (n := 69) (As := []) (rest := [vI i_121]) hx (ctJ0_length_8abf5 Γ M w _ hw) mlX10_260 rfl hw (dq tX10_stood 36 rfl) rfl (Nat.le_of_ble_eq_true rfl) (Nat.le_of_ble_eq_true rfl) (Nat.le_of_ble_eq_true rfl) rfl (fun z_134 M_135 h_136 p_137 => ?_)
                obtain ⟨rfl, h_138⟩ := p_137
                refine g_icmp_ge (n := 72) (t := 109) hx (dq tX10_stood 37 rfl) (by decide) rfl ⟨by omega, by omega⟩ h_136 (fun c_139 => ?_) (fun c_139 => ?_)
                · refine g_iload_n (n := 110) hx 1 (dq tX10_stood 57 rfl) rfl rfl ?_
                  exact g_zret hx hr (dq tX10_stood 58 rfl) (by omega) ⟨rfl, (by omega), (by omega), (st_end hLW hcl2 h_9 (by omega) (by omega) (SD.end (i := w) h_127 (by omega)) (fun hz9 => by omega))⟩
                · refine g_iload_n (n := 73) hx 1 (dq tX10_stood 38 rfl) rfl rfl ?_
                  refine g_if_eq (n := 76) (t := 109) hx (dq tX10_stood 39 rfl) (by decide) rfl ⟨by omega, by omega⟩ (fun c_140 => ?_) (fun c_140 => ?_)
                  · refine g_iload_n (n := 110) hx 1 (dq tX10_stood 57 rfl) rfl rfl ?_
                    exact g_zret hx hr (dq tX10_stood 58 rfl) (by omega) ⟨rfl, (by omega), (by omega), (st_end hLW hcl2 h_9 (by omega) (by omega) (SD.end (i := w) h_127 (by omega)) (fun hz9 => by omega))⟩
                  · refine g_aload_n (n := 77) hx 3 (dq tX10_stood 40 rfl) rfl rfl ?_
                    refine g_getR (n := 80) hx glX10_122 (sX10_48 (by decide)) (dq tX10_stood 41 rfl) rfl ?_
                    refine g_aload_n (n := 81) hx 3 (dq tX10_stood 42 rfl) rfl rfl ?_
                    refine g_getI (n := 84) hx glX10_249 (sX10_38 (by decide)) (dq tX10_stood 43 rfl) rfl (fun h_141l h_141u => ?_)
                    refine g_iload (n := 86) hx 0 (dq tX10_stood 44 rfl) rfl rfl ?_
                    refine g_iadd (n := 87) hx (dq tX10_stood 45 rfl) rfl ?_
                    refine g_bald (n := 88) (q := ((M 229 38) + i_121).toNat) hx (aX10_48 (b := 229) (by decide)) (dq tX10_stood 46 rfl) rfl (by omega) (by omega) (by omega) rfl (fun h_142l h_142u => ?_)
                    have h_142l : (-128) ≤ M (229 + 37) (((M 229 38) + i_121).toNat) := h_142l
                    have h_142u : M (229 + 37) (((M 229 38) + i_121).toNat) ≤ 127 := h_142u
                    have h_143 : M (229 + 37) (((M 229 38) + i_121).toNat) % 256 = t9 (((M 229 38) + i_121).toNat) := ex0.2 (((M 229 38) + i_121).toNat) (by omega)
                    have h_144 : t9 (((M 229 38) + i_121).toNat) = t9 (a9 + i_121.toNat) := congrArg t9 (by omega)
                    refine g_aload_nS (n := 89) hx 4 (dq tX10_stood 47 rfl) rfl rfl ?_
                    refine g_iload (n := 91) hx 0 (dq tX10_stood 48 rfl) rfl rfl ?_
                    refine g_callSt (n := 94) (As := [vI i_121]) (rest := [vI (M (229 + 37) (((M 229 38) + i_121).toNat))]) hx (ctJ0_charAt_5068e2 Γ M w _ hw i_121 (by omega) (by omega)) mlX10_264 rfl hw (dq tX10_stood 49 rfl) rfl (Nat.le_of_ble_eq_true rfl) (Nat.le_of_ble_eq_true rfl) (Nat.le_of_ble_eq_true rfl) rfl (fun z_145 M_146 h_147 p_148 => ?_)
                    obtain ⟨rfl, h_149⟩ := p_148
                    have h_149r := sbt_rg0 w (by first | decide | omega) i_121.toNat (by omega)
                    refine g_icmp_ne (n := 97) (t := 101) hx (dq tX10_stood 50 rfl) (by decide) rfl (zrI h_142l h_142u (by decide) (by decide)) h_147 (fun c_150 => ?_) (fun c_150 => ?_)
                    · refine g_iconst (n := 102) hx (dq tX10_stood 53 rfl) rfl ?_
                      refine g_istore_n (n := 103) (lv' := [(3, vI 0), (4, vI i_121), (2, vI i_2), (0, aR Γ 229), (1, sR Γ w)]) hx (dq tX10_stood 54 rfl) (by decide) rfl rfl ?_
                      refine g_iinc (n := 106) (lv' := [(4, vI (i_121 + 1)), (3, vI 0), (2, vI i_2), (0, aR Γ 229), (1, sR Γ w)]) hx 1 (dq tX10_stood 55 rfl) rfl (by decide) rfl rfl ?_
                      refine g_goto (n := 63) hx (dq tX10_stood 56 rfl) (by decide) ?_
                      exact ih_124 _ (by omega) (i_121 + 1) 0 (by omega) (by omega) (by omega) (by omega) (SD.go (i := w) h_127 (by omega) (by omega) (by omega) (by omega) (by omega)) (by omega) (by omega) rfl
                    · refine g_iconst (n := 98) hx (dq tX10_stood 51 rfl) rfl ?_
                      refine g_goto (n := 102) hx (dq tX10_stood 52 rfl) (by decide) ?_
                      refine g_istore_n (n := 103) (lv' := [(3, vI 1), (4, vI i_121), (2, vI i_2), (0, aR Γ 229), (1, sR Γ w)]) hx (dq tX10_stood 54 rfl) (by decide) rfl rfl ?_
                      refine g_iinc (n := 106) (lv' := [(4, vI (i_121 + 1)), (3, vI 1), (2, vI i_2), (0, aR Γ 229), (1, sR Γ w)]) hx 1 (dq tX10_stood 55 rfl) rfl (by decide) rfl rfl ?_
                      refine g_goto (n := 63) hx (dq tX10_stood 56 rfl) (by decide) ?_
                      exact ih_124 _ (by omega) (i_121 + 1) 1 (by omega) (by omega) (by omega) (by omega) (SD.go (i := w) h_127 (by omega) (by omega) (by omega) (by omega) (by omega)) (by omega) (by omega) rfl
            exact L_123 _ 0 1 (by omega) (by omega) (by omega) (by omega) (SD.yes (by omega)) (by omega) (by omega) rfl
        · refine g_aload_n (n := 25) hx 1 (dq tX10_stood 13 rfl) rfl rfl ?_
          refine g_getR (n := 28) hx glX10_122 (sX10_48 (by decide)) (dq tX10_stood 14 rfl) rfl ?_
          refine g_iload_n (n := 29) hx 0 (dq tX10_stood 15 rfl) rfl rfl ?_
          refine g_bald (n := 30) (q := i_2.toNat) hx (aX10_48 (b := 229) (by decide)) (dq tX10_stood 16 rfl) rfl (by omega) (by omega) (by omega) rfl (fun h_151l h_151u => ?_)
          have h_151l : (-128) ≤ M (229 + 37) i_2.toNat := h_151l
          have h_151u : M (229 + 37) i_2.toNat ≤ 127 := h_151u
          have h_152 : M (229 + 37) i_2.toNat % 256 = t9 i_2.toNat := ex0.2 i_2.toNat (by omega)
          refine g_bipush (n := 32) hx (dq tX10_stood 17 rfl) rfl (by decide) ?_
          refine g_icmp_gt (n := 35) (t := 41) hx (dq tX10_stood 18 rfl) (by decide) rfl (zrI h_151l h_151u (by decide) (by decide)) ⟨by decide, by decide⟩ (fun c_153 => ?_) (fun c_153 => ?_)
          · refine g_iload_n (n := 42) hx 0 (dq tX10_stood 21 rfl) rfl rfl ?_
            refine g_aload_n (n := 43) hx 1 (dq tX10_stood 22 rfl) rfl rfl ?_
            refine g_getI (n := 46) hx glX10_249 (sX10_38 (by decide)) (dq tX10_stood 23 rfl) rfl (fun h_154l h_154u => ?_)
            refine g_isub (n := 47) hx (dq tX10_stood 24 rfl) rfl ?_
            refine g_aload_nS (n := 48) hx 2 (dq tX10_stood 25 rfl) rfl rfl ?_
            refine g_callSt (n := 51) (As := []) (rest := [vI (i_2 - (M 229 38))]) hx (ctJ0_length_8abf5 Γ M w _ hw) mlX10_260 rfl hw (dq tX10_stood 26 rfl) rfl (Nat.le_of_ble_eq_true rfl) (Nat.le_of_ble_eq_true rfl) (Nat.le_of_ble_eq_true rfl) rfl (fun z_155 M_156 h_157 p_158 => ?_)
            obtain ⟨rfl, h_159⟩ := p_158
            refine g_icmp_ne (n := 54) (t := 58) hx (dq tX10_stood 27 rfl) (by decide) rfl ⟨by omega, by omega⟩ h_157 (fun c_160 => ?_) (fun c_160 => ?_)
            · refine g_iconst (n := 59) hx (dq tX10_stood 30 rfl) rfl ?_
              refine g_istore_n (n := 60) (lv' := [(3, vI 0), (2, vI i_2), (0, aR Γ 229), (1, sR Γ w)]) hx (dq tX10_stood 31 rfl) (by decide) rfl rfl ?_
              refine g_iconst (n := 61) hx (dq tX10_stood 32 rfl) rfl ?_
              refine g_istore (n := 63) (lv' := [(4, vI 0), (3, vI 0), (2, vI i_2), (0, aR Γ 229), (1, sR Γ w)]) hx (dq tX10_stood 33 rfl) (by decide) rfl rfl ?_
              have L_163 : ∀ (n_ : Nat) (i_161 : Int) (i_162 : Int), (0 ≤ i_161) → (i_161 ≤ 100) → (0 ≤ i_162) → (i_162 ≤ 1) → (SD t9 a9 (i_2 - (a9 : Int) = ((sln w : Nat) : Int)) (csL w) i_161 i_162) → ((i_162 = 0 ∨ i_2 - M 229 38 = sln w)) → (i_161 ≤ sln w) → ((100 - i_161).toNat = n_) → G Γ x 5 (QI Γ x (qctX10_stood3 M w t9 n9 a9)) M 63 [(4, vI i_161), (3, vI i_162), (2, vI i_2), (0, aR Γ 229), (1, sR Γ w)] [] := by
                intro n_
                induction n_ using Nat.strongRecOn with
                | _ n_ ih_164 =>
                  intro i_161 i_162 h_170 h_171 h_172 h_173 h_167 h_168 h_169 hm_166
                  refine g_iload (n := 65) hx 0 (dq tX10_stood 34 rfl) rfl rfl ?_
                  refine g_aload_nS (n := 66) hx 4 (dq tX10_stood 35 rfl) rfl rfl ?_
                  refine g_callSt (n := 69) (As := []) (rest := [vI i_161]) hx (ctJ0_length_8abf5 Γ M w _ hw) mlX10_260 rfl hw (dq tX10_stood 36 rfl) rfl (Nat.le_of_ble_eq_true rfl) (Nat.le_of_ble_eq_true rfl) (Nat.le_of_ble_eq_true rfl) rfl (fun z_174 M_175 h_176 p_177 => ?_)
                  obtain ⟨rfl, h_178⟩ := p_177
                  refine g_icmp_ge (n := 72) (t := 109) hx (dq tX10_stood 37 rfl) (by decide) rfl ⟨by omega, by omega⟩ h_176 (fun c_179 => ?_) (fun c_179 => ?_)
                  · refine g_iload_n (n := 110) hx 1 (dq tX10_stood 57 rfl) rfl rfl ?_
                    exact g_zret hx hr (dq tX10_stood 58 rfl) (by omega) ⟨rfl, (by omega), (by omega), (st_end hLW hcl2 h_9 (by omega) (by omega) (SD.end (i := w) h_167 (by omega)) (fun hz9 => by omega))⟩
                  · refine g_iload_n (n := 73) hx 1 (dq tX10_stood 38 rfl) rfl rfl ?_
                    refine g_if_eq (n := 76) (t := 109) hx (dq tX10_stood 39 rfl) (by decide) rfl ⟨by omega, by omega⟩ (fun c_180 => ?_) (fun c_180 => ?_)
                    · refine g_iload_n (n := 110) hx 1 (dq tX10_stood 57 rfl) rfl rfl ?_
                      exact g_zret hx hr (dq tX10_stood 58 rfl) (by omega) ⟨rfl, (by omega), (by omega), (st_end hLW hcl2 h_9 (by omega) (by omega) (SD.end (i := w) h_167 (by omega)) (fun hz9 => by omega))⟩
                    · refine g_aload_n (n := 77) hx 3 (dq tX10_stood 40 rfl) rfl rfl ?_
                      refine g_getR (n := 80) hx glX10_122 (sX10_48 (by decide)) (dq tX10_stood 41 rfl) rfl ?_
                      refine g_aload_n (n := 81) hx 3 (dq tX10_stood 42 rfl) rfl rfl ?_
                      refine g_getI (n := 84) hx glX10_249 (sX10_38 (by decide)) (dq tX10_stood 43 rfl) rfl (fun h_181l h_181u => ?_)
                      refine g_iload (n := 86) hx 0 (dq tX10_stood 44 rfl) rfl rfl ?_
                      refine g_iadd (n := 87) hx (dq tX10_stood 45 rfl) rfl ?_
                      refine g_bald (n := 88) (q := ((M 229 38) + i_161).toNat) hx (aX10_48 (b := 229) (by decide)) (dq tX10_stood 46 rfl) rfl (by omega) (by omega) (by omega) rfl (fun h_182l h_182u => ?_)
                      have h_182l : (-128) ≤ M (229 + 37) (((M 229 38) + i_161).toNat) := h_182l
                      have h_182u : M (229 + 37) (((M 229 38) + i_161).toNat) ≤ 127 := h_182u
                      have h_183 : M (229 + 37) (((M 229 38) + i_161).toNat) % 256 = t9 (((M 229 38) + i_161).toNat) := ex0.2 (((M 229 38) + i_161).toNat) (by omega)
                      have h_184 : t9 (((M 229 38) + i_161).toNat) = t9 (a9 + i_161.toNat) := congrArg t9 (by omega)
                      refine g_aload_nS (n := 89) hx 4 (dq tX10_stood 47 rfl) rfl rfl ?_
                      refine g_iload (n := 91) hx 0 (dq tX10_stood 48 rfl) rfl rfl ?_
                      refine g_callSt (n := 94) (As := [vI i_161]) (rest := [vI (M (229 + 37) (((M 229 38) + i_161).toNat))]) hx (ctJ0_charAt_5068e2 Γ M w _ hw i_161 (by omega) (by omega)) mlX10_264 rfl hw (dq tX10_stood 49 rfl) rfl (Nat.le_of_ble_eq_true rfl) (Nat.le_of_ble_eq_true rfl) (Nat.le_of_ble_eq_true rfl) rfl (fun z_185 M_186 h_187 p_188 => ?_)
                      obtain ⟨rfl, h_189⟩ := p_188
                      have h_189r := sbt_rg0 w (by first | decide | omega) i_161.toNat (by omega)
                      refine g_icmp_ne (n := 97) (t := 101) hx (dq tX10_stood 50 rfl) (by decide) rfl (zrI h_182l h_182u (by decide) (by decide)) h_187 (fun c_190 => ?_) (fun c_190 => ?_)
                      · refine g_iconst (n := 102) hx (dq tX10_stood 53 rfl) rfl ?_
                        refine g_istore_n (n := 103) (lv' := [(3, vI 0), (4, vI i_161), (2, vI i_2), (0, aR Γ 229), (1, sR Γ w)]) hx (dq tX10_stood 54 rfl) (by decide) rfl rfl ?_
                        refine g_iinc (n := 106) (lv' := [(4, vI (i_161 + 1)), (3, vI 0), (2, vI i_2), (0, aR Γ 229), (1, sR Γ w)]) hx 1 (dq tX10_stood 55 rfl) rfl (by decide) rfl rfl ?_
                        refine g_goto (n := 63) hx (dq tX10_stood 56 rfl) (by decide) ?_
                        exact ih_164 _ (by omega) (i_161 + 1) 0 (by omega) (by omega) (by omega) (by omega) (SD.go (i := w) h_167 (by omega) (by omega) (by omega) (by omega) (by omega)) (by omega) (by omega) rfl
                      · refine g_iconst (n := 98) hx (dq tX10_stood 51 rfl) rfl ?_
                        refine g_goto (n := 102) hx (dq tX10_stood 52 rfl) (by decide) ?_
                        refine g_istore_n (n := 103) (lv' := [(3, vI 1), (4, vI i_161), (2, vI i_2), (0, aR Γ 229), (1, sR Γ w)]) hx (dq tX10_stood 54 rfl) (by decide) rfl rfl ?_
                        refine g_iinc (n := 106) (lv' := [(4, vI (i_161 + 1)), (3, vI 1), (2, vI i_2), (0, aR Γ 229), (1, sR Γ w)]) hx 1 (dq tX10_stood 55 rfl) rfl (by decide) rfl rfl ?_
                        refine g_goto (n := 63) hx (dq tX10_stood 56 rfl) (by decide) ?_
                        exact ih_164 _ (by omega) (i_161 + 1) 1 (by omega) (by omega) (by omega) (by omega) (SD.go (i := w) h_167 (by omega) (by omega) (by omega) (by omega) (by omega)) (by omega) (by omega) rfl
              exact L_163 _ 0 0 (by omega) (by omega) (by omega) (by omega) (SD.no (by omega)) (by omega) (by omega) rfl
            · refine g_iconst (n := 55) hx (dq tX10_stood 28 rfl) rfl ?_
              refine g_goto (n := 59) hx (dq tX10_stood 29 rfl) (by decide) ?_
              refine g_istore_n (n := 60) (lv' := [(3, vI 1), (2, vI i_2), (0, aR Γ 229), (1, sR Γ w)]) hx (dq tX10_stood 31 rfl) (by decide) rfl rfl ?_
              refine g_iconst (n := 61) hx (dq tX10_stood 32 rfl) rfl ?_
              refine g_istore (n := 63) (lv' := [(4, vI 0), (3, vI 1), (2, vI i_2), (0, aR Γ 229), (1, sR Γ w)]) hx (dq tX10_stood 33 rfl) (by decide) rfl rfl ?_
              have L_193 : ∀ (n_ : Nat) (i_191 : Int) (i_192 : Int), (0 ≤ i_191) → (i_191 ≤ 100) → (0 ≤ i_192) → (i_192 ≤ 1) → (SD t9 a9 (i_2 - (a9 : Int) = ((sln w : Nat) : Int)) (csL w) i_191 i_192) → ((i_192 = 0 ∨ i_2 - M 229 38 = sln w)) → (i_191 ≤ sln w) → ((100 - i_191).toNat = n_) → G Γ x 5 (QI Γ x (qctX10_stood3 M w t9 n9 a9)) M 63 [(4, vI i_191), (3, vI i_192), (2, vI i_2), (0, aR Γ 229), (1, sR Γ w)] [] := by
                intro n_
                induction n_ using Nat.strongRecOn with
                | _ n_ ih_194 =>
                  intro i_191 i_192 h_200 h_201 h_202 h_203 h_197 h_198 h_199 hm_196
                  refine g_iload (n := 65) hx 0 (dq tX10_stood 34 rfl) rfl rfl ?_
                  refine g_aload_nS (n := 66) hx 4 (dq tX10_stood 35 rfl) rfl rfl ?_
                  refine g_callSt (n := 69) (As := []) (rest := [vI i_191]) hx (ctJ0_length_8abf5 Γ M w _ hw) mlX10_260 rfl hw (dq tX10_stood 36 rfl) rfl (Nat.le_of_ble_eq_true rfl) (Nat.le_of_ble_eq_true rfl) (Nat.le_of_ble_eq_true rfl) rfl (fun z_204 M_205 h_206 p_207 => ?_)
                  obtain ⟨rfl, h_208⟩ := p_207
                  refine g_icmp_ge (n := 72) (t := 109) hx (dq tX10_stood 37 rfl) (by decide) rfl ⟨by omega, by omega⟩ h_206 (fun c_209 => ?_) (fun c_209 => ?_)
                  · refine g_iload_n (n := 110) hx 1 (dq tX10_stood 57 rfl) rfl rfl ?_
                    exact g_zret hx hr (dq tX10_stood 58 rfl) (by omega) ⟨rfl, (by omega), (by omega), (st_end hLW hcl2 h_9 (by omega) (by omega) (SD.end (i := w) h_197 (by omega)) (fun hz9 => by omega))⟩
                  · refine g_iload_n (n := 73) hx 1 (dq tX10_stood 38 rfl) rfl rfl ?_
                    refine g_if_eq (n := 76) (t := 109) hx (dq tX10_stood 39 rfl) (by decide) rfl ⟨by omega, by omega⟩ (fun c_210 => ?_) (fun c_210 => ?_)
                    · refine g_iload_n (n := 110) hx 1 (dq tX10_stood 57 rfl) rfl rfl ?_
                      exact g_zret hx hr (dq tX10_stood 58 rfl) (by omega) ⟨rfl, (by omega), (by omega), (st_end hLW hcl2 h_9 (by omega) (by omega) (SD.end (i := w) h_197 (by omega)) (fun hz9 => by omega))⟩
                    · refine g_aload_n (n := 77) hx 3 (dq tX10_stood 40 rfl) rfl rfl ?_
                      refine g_getR (n := 80) hx glX10_122 (sX10_48 (by decide)) (dq tX10_stood 41 rfl) rfl ?_
                      refine g_aload_n (n := 81) hx 3 (dq tX10_stood 42 rfl) rfl rfl ?_
                      refine g_getI (n := 84) hx glX10_249 (sX10_38 (by decide)) (dq tX10_stood 43 rfl) rfl (fun h_211l h_211u => ?_)
                      refine g_iload (n := 86) hx 0 (dq tX10_stood 44 rfl) rfl rfl ?_
                      refine g_iadd (n := 87) hx (dq tX10_stood 45 rfl) rfl ?_
                      refine g_bald (n := 88) (q := ((M 229 38) + i_191).toNat) hx (aX10_48 (b := 229) (by decide)) (dq tX10_stood 46 rfl) rfl (by omega) (by omega) (by omega) rfl (fun h_212l h_212u => ?_)
                      have h_212l : (-128) ≤ M (229 + 37) (((M 229 38) + i_191).toNat) := h_212l
                      have h_212u : M (229 + 37) (((M 229 38) + i_191).toNat) ≤ 127 := h_212u
                      have h_213 : M (229 + 37) (((M 229 38) + i_191).toNat) % 256 = t9 (((M 229 38) + i_191).toNat) := ex0.2 (((M 229 38) + i_191).toNat) (by omega)
                      have h_214 : t9 (((M 229 38) + i_191).toNat) = t9 (a9 + i_191.toNat) := congrArg t9 (by omega)
                      refine g_aload_nS (n := 89) hx 4 (dq tX10_stood 47 rfl) rfl rfl ?_
                      refine g_iload (n := 91) hx 0 (dq tX10_stood 48 rfl) rfl rfl ?_
                      refine g_callSt (n := 94) (As := [vI i_191]) (rest := [vI (M (229 + 37) (((M 229 38) + i_191).toNat))]) hx (ctJ0_charAt_5068e2 Γ M w _ hw i_191 (by omega) (by omega)) mlX10_264 rfl hw (dq tX10_stood 49 rfl) rfl (Nat.le_of_ble_eq_true rfl) (Nat.le_of_ble_eq_true rfl) (Nat.le_of_ble_eq_true rfl) rfl (fun z_215 M_216 h_217 p_218 => ?_)
                      obtain ⟨rfl, h_219⟩ := p_218
                      have h_219r := sbt_rg0 w (by first | decide | omega) i_191.toNat (by omega)
                      refine g_icmp_ne (n := 97) (t := 101) hx (dq tX10_stood 50 rfl) (by decide) rfl (zrI h_212l h_212u (by decide) (by decide)) h_217 (fun c_220 => ?_) (fun c_220 => ?_)
                      · refine g_iconst (n := 102) hx (dq tX10_stood 53 rfl) rfl ?_
                        refine g_istore_n (n := 103) (lv' := [(3, vI 0), (4, vI i_191), (2, vI i_2), (0, aR Γ 229), (1, sR Γ w)]) hx (dq tX10_stood 54 rfl) (by decide) rfl rfl ?_
                        refine g_iinc (n := 106) (lv' := [(4, vI (i_191 + 1)), (3, vI 0), (2, vI i_2), (0, aR Γ 229), (1, sR Γ w)]) hx 1 (dq tX10_stood 55 rfl) rfl (by decide) rfl rfl ?_
                        refine g_goto (n := 63) hx (dq tX10_stood 56 rfl) (by decide) ?_
                        exact ih_194 _ (by omega) (i_191 + 1) 0 (by omega) (by omega) (by omega) (by omega) (SD.go (i := w) h_197 (by omega) (by omega) (by omega) (by omega) (by omega)) (by omega) (by omega) rfl
                      · refine g_iconst (n := 98) hx (dq tX10_stood 51 rfl) rfl ?_
                        refine g_goto (n := 102) hx (dq tX10_stood 52 rfl) (by decide) ?_
                        refine g_istore_n (n := 103) (lv' := [(3, vI 1), (4, vI i_191), (2, vI i_2), (0, aR Γ 229), (1, sR Γ w)]) hx (dq tX10_stood 54 rfl) (by decide) rfl rfl ?_
                        refine g_iinc (n := 106) (lv' := [(4, vI (i_191 + 1)), (3, vI 1), (2, vI i_2), (0, aR Γ 229), (1, sR Γ w)]) hx 1 (dq tX10_stood 55 rfl) rfl (by decide) rfl rfl ?_
                        refine g_goto (n := 63) hx (dq tX10_stood 56 rfl) (by decide) ?_
                        exact ih_194 _ (by omega) (i_191 + 1) 1 (by omega) (by omega) (by omega) (by omega) (SD.go (i := w) h_197 (by omega) (by omega) (by omega) (by omega) (by omega)) (by omega) (by omega) rfl
              exact L_193 _ 0 1 (by omega) (by omega) (by omega) (by omega) (SD.yes (by omega)) (by omega) (by omega) rfl
          · refine g_iinc (n := 38) (lv' := [(2, vI (i_2 + 1)), (0, aR Γ 229), (1, sR Γ w)]) hx 0 (dq tX10_stood 19 rfl) rfl (by decide) rfl rfl ?_
            refine g_goto (n := 5) hx (dq tX10_stood 20 rfl) (by decide) ?_
            exact ih_4 _ (by omega) (i_2 + 1) (by omega) (by omega) (by omega) (by omega) (by rw [show (i_2 + 1).toNat = i_2.toNat + 1 by omega, ← wh_go (t := t9) (n := n9) (lo := 97) (hi := 122) (a := i_2.toNat) (by omega) (by omega) (by omega)]; exact h_9) rfl
  exact L_3 _ (M 229 38) (by omega) (by omega) (by omega) (by omega) (by rw [show (M 229 38).toNat = a9 by omega]) rfl

abbrev qctX10_takes3 (M : zM) (w : Nat) (t9 : Nat → Int) (n9 : Nat) (a9 : Nat) (z : Int) (M' : zM) : Prop := (∀ u_ v_, (u_ ≠ 229 ∨ v_ ≠ 38) → M' u_ v_ = M u_ v_) ∧ 0 ≤ z ∧ z ≤ 1 ∧ (M 229 38 ≤ M' 229 38) ∧ (M' 229 38 = M 229 38 ∨ M' 229 38 ≤ M 229 37) ∧ ((z = 1 ∧ isw t9 n9 (sk t9 n9 a9) (csL w) = true ∧ M' 229 38 = stp t9 n9 (sk t9 n9 a9)) ∨ (z = 0 ∧ ¬ isw t9 n9 (sk t9 n9 a9) (csL w) = true ∧ M' 229 38 = sk t9 n9 a9))
set_option maxHeartbeats 4000000 in
set_option maxRecDepth 100000 in
theorem ctX10_takes3 (Γ : Gam) (M : zM) (w : Nat) (qw : String × Nat × String × Nat) (hw : sN[w]? = some qw) (hwn : qw.2.2.2 ≤ 100) (t9 : Nat → Int) (n9 : Nat) (a9 : Nat) (pre0 : 1 ≤ sln w) (pre1 : M 229 38 = a9) (ex0 : Ty M t9 n9) (ex1 : LW w) : CtI Γ yX10_takes cX10_takes 3 (some .boolean) 5 109 [aR Γ 229, sR Γ w] M (qctX10_takes3 M w t9 n9 a9) := by
  refine met_i (by decide) (Nat.le_of_ble_eq_true rfl) (fun x hx hr => ?_)
  show G Γ x 3 (QI Γ x (qctX10_takes3 M w t9 n9 a9)) M 0 [(0, aR Γ 229), (1, sR Γ w)] []
  refine g_iv (fun hI0 => ?_)
  have hI_37 : (0 : Int) ≤ M 229 37 ∧ M 229 37 ≤ 400 := hI0 229 37
  have hI_38 : (0 : Int) ≤ M 229 38 ∧ M 229 38 ≤ 402 := hI0 229 38
  have hI_45 : (0 : Int) ≤ M 229 45 ∧ M 229 45 ≤ 402 := hI0 229 45
  have hI_42 : (0 : Int) ≤ M 229 42 ∧ M 229 42 ≤ 300 := hI0 229 42
  have hI_39 : (0 : Int) ≤ M 229 39 ∧ M 229 39 ≤ 100000 := hI0 229 39
  have hI_40 : (0 : Int) ≤ M 229 40 ∧ M 229 40 ≤ 5 := hI0 229 40
  have hI_41 : (0 : Int) ≤ M 229 41 ∧ M 229 41 ≤ 6 := hI0 229 41
  clear hI0
  have hty_n := ex0.1
  have hwl := sln_eq hw
  refine g_aload_n (n := 1) hx 0 (dq tX10_takes 0 rfl) rfl rfl ?_
  refine g_callVv (n := 4) (As := []) (rest := []) hx (ctX10_blanks3 Γ M t9 n9 a9 (by omega) ex0) mlX10_268 (obX10 (by decide)) (dq tX10_takes 1 rfl) rfl (Nat.le_of_ble_eq_true rfl) (Nat.le_of_ble_eq_true rfl) (Nat.le_of_ble_eq_true rfl) rfl (fun M_2 p_4 => ?_)
  obtain ⟨f_5, h_6, h_7, h_8⟩ := p_4
  have g_9 : Ty M_2 t9 n9 := Ty.frame ex0 (fun c j hcj => f_5 c j (by omega))
  refine g_aload_n (n := 5) hx 0 (dq tX10_takes 2 rfl) rfl rfl ?_
  refine g_aload_nS (n := 6) hx 1 (dq tX10_takes 3 rfl) rfl rfl ?_
  have e_10 : M_2 229 37 = M 229 37 := (f_5 229 37 (by omega))
  have e_11 : M_2 229 39 = M 229 39 := (f_5 229 39 (by omega))
  refine g_callVi (n := 9) (As := [sR Γ w]) (rest := []) hx (ctX10_stood3 Γ M_2 w _ hw hwn t9 n9 (sk t9 n9 a9) (by omega) (by omega) g_9 ex1) mlX10_271 (obX10 (by decide)) (dq tX10_takes 4 rfl) rfl (Nat.le_of_ble_eq_true rfl) (Nat.le_of_ble_eq_true rfl) (Nat.le_of_ble_eq_true rfl) rfl (fun z_12 M_13 h_14 p_15 => ?_)
  obtain ⟨rfl, h_17, h_18, h_19⟩ := p_15
  refine g_istore_n (n := 10) (lv' := [(2, vI z_12), (0, aR Γ 229), (1, sR Γ w)]) hx (dq tX10_takes 5 rfl) (by decide) rfl rfl ?_
  refine g_aload_n (n := 11) hx 1 (dq tX10_takes 6 rfl) rfl rfl ?_
  refine g_dup (n := 12) hx (dq tX10_takes 7 rfl) rfl rfl ?_
  refine g_getI (n := 15) hx glX10_249 (sX10_38 (by decide)) (dq tX10_takes 8 rfl) rfl (fun h_20l h_20u => ?_)
  refine g_iload_n (n := 16) hx 0 (dq tX10_takes 9 rfl) rfl rfl ?_
  refine g_if_eq (n := 19) (t := 26) hx (dq tX10_takes 10 rfl) (by decide) rfl h_14 (fun c_21 => ?_) (fun c_21 => ?_)
  · refine g_iconst (n := 27) hx (dq tX10_takes 14 rfl) rfl ?_
    refine g_iadd (n := 28) hx (dq tX10_takes 15 rfl) rfl ?_
    refine g_putI (n := 31) hx plX10_249 (sX10_38 (by decide)) (dq tX10_takes 16 rfl) rfl (by omega) (by omega) (fun M_22 m_23e m_23 => ?_)
    have g_24 : Ty M_22 t9 n9 := Ty.frame g_9 (fun c j hcj => m_23 c j (by omega))
    refine g_iload_n (n := 32) hx 0 (dq tX10_takes 17 rfl) rfl rfl ?_
    have e_25 : M_22 229 37 = M_2 229 37 := (m_23 229 37 (by omega))
    have e_26 : M_22 229 39 = M_2 229 39 := (m_23 229 39 (by omega))
    exact g_zret hx hr (dq tX10_takes 18 rfl) (by omega) ⟨(fun u_ v_ huv_ => ((m_23 u_ v_ (by omega)).trans (f_5 u_ v_ (by omega)))), (by omega), (by omega), (by omega), (by omega), (Or.inr ⟨by omega, stN h_19 (by omega), by omega⟩)⟩
  · refine g_aload_nS (n := 20) hx 2 (dq tX10_takes 11 rfl) rfl rfl ?_
    refine g_callSt (n := 23) (As := []) (rest := [vI (M_2 229 38), aR Γ 229]) hx (ctJ0_length_8abf5 Γ M_2 w _ hw) mlX10_260 rfl hw (dq tX10_takes 12 rfl) rfl (Nat.le_of_ble_eq_true rfl) (Nat.le_of_ble_eq_true rfl) (Nat.le_of_ble_eq_true rfl) rfl (fun z_27 M_28 h_29 p_30 => ?_)
    obtain ⟨rfl, h_31⟩ := p_30
    refine g_goto (n := 27) hx (dq tX10_takes 13 rfl) (by decide) ?_
    refine g_iadd (n := 28) hx (dq tX10_takes 15 rfl) rfl ?_
    refine g_putI (n := 31) hx plX10_249 (sX10_38 (by decide)) (dq tX10_takes 16 rfl) rfl (by omega) (by omega) (fun M_32 m_33e m_33 => ?_)
    have g_34 : Ty M_32 t9 n9 := Ty.frame g_9 (fun c j hcj => m_33 c j (by omega))
    refine g_iload_n (n := 32) hx 0 (dq tX10_takes 17 rfl) rfl rfl ?_
    have e_35 : M_32 229 37 = M_2 229 37 := (m_33 229 37 (by omega))
    have e_36 : M_32 229 39 = M_2 229 39 := (m_33 229 39 (by omega))
    exact g_zret hx hr (dq tX10_takes 18 rfl) (by omega) ⟨(fun u_ v_ huv_ => ((m_33 u_ v_ (by omega)).trans (f_5 u_ v_ (by omega)))), (by omega), (by omega), (by omega), (by omega), (Or.inl ⟨by omega, (stY h_19 (by omega)).1, by have w1 := (stY h_19 (by omega)).2.1; omega⟩)⟩
