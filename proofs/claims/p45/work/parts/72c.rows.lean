abbrev qctX10_isCounted3 (M : zM) (place : Int) (ua : Int) (ud : Int) (un : Int) (us : Int) (M' : zM) : Prop := (∀ u_ v_, (u_ ≠ 229 ∨ v_ ≠ 39) ∧ (u_ ≠ 229 ∨ v_ ≠ 44) → M' u_ v_ = M u_ v_) ∧ (Rd M' ua ud un (us + 6)) ∧ (M' 229 39 = 0 → M 229 39 = 0) ∧ (M 229 39 ≠ 0 → M' 229 39 = M 229 39) ∧ (M 229 39 = 0 → M 229 44 = 60 → M' 229 39 = 1 + 8 * place + 3) ∧ (M 229 39 = 0 → M 229 44 ≠ 60 → (M' 229 39 = 0 ∧ M' 229 44 = M 229 44 + 1))
set_option maxHeartbeats 4000000 in
set_option maxRecDepth 100000 in
theorem ctX10_isCounted3 (Γ : Gam) (M : zM) (place : Int) (hplacel : 0 ≤ place) (hplaceu : place ≤ 402) (ua : Int) (ud : Int) (un : Int) (us : Int) (ex0 : Rd M ua ud un us) : CtV Γ yX10_isCounted cX10_isCounted 2 none 1 22 [aR Γ 229, vI place] M (qctX10_isCounted3 M place ua ud un us) := by
  refine met_v (by decide) (Nat.le_of_ble_eq_true rfl) (fun x hx hr => ?_)
  show G Γ x 2 (QV Γ x (qctX10_isCounted3 M place ua ud un us)) M 0 [(0, aR Γ 229), (1, vI place)] []
  refine g_iv (fun hI0 => ?_)
  have hI_37 : (0 : Int) ≤ M 229 37 ∧ M 229 37 ≤ 400 := hI0 229 37
  have hI_38 : (0 : Int) ≤ M 229 38 ∧ M 229 38 ≤ 402 := hI0 229 38
  have hI_45 : (0 : Int) ≤ M 229 45 ∧ M 229 45 ≤ 402 := hI0 229 45
  have hI_42 : (0 : Int) ≤ M 229 42 ∧ M 229 42 ≤ 300 := hI0 229 42
  have hI_39 : (0 : Int) ≤ M 229 39 ∧ M 229 39 ≤ 100000 := hI0 229 39
  have hI_40 : (0 : Int) ≤ M 229 40 ∧ M 229 40 ≤ 5 := hI0 229 40
  have hI_41 : (0 : Int) ≤ M 229 41 ∧ M 229 41 ≤ 6 := hI0 229 41
  clear hI0
  by_cases hq : M 229 39 = 0
  · have hn0 := (Rd.nums ex0 hq).2.1
    refine g_aload_n (n := 1) hx 0 (dq tX10_isCounted 0 rfl) rfl rfl ?_
    refine g_getI (n := 4) hx glX10_281 (sX10_44 (by decide)) (dq tX10_isCounted 1 rfl) rfl (fun h_1l h_1u => ?_)
    refine g_bipush (n := 6) hx (dq tX10_isCounted 2 rfl) rfl (by decide) ?_
    refine g_icmp_ne (n := 9) (t := 15) hx (dq tX10_isCounted 3 rfl) (by decide) rfl (zrI h_1l h_1u (by decide) (by decide)) ⟨by decide, by decide⟩ (fun c_2 => ?_) (fun c_2 => ?_)
    · refine g_aload_n (n := 16) hx 0 (dq tX10_isCounted 8 rfl) rfl rfl ?_
      refine g_dup (n := 17) hx (dq tX10_isCounted 9 rfl) rfl rfl ?_
      refine g_getI (n := 20) hx glX10_281 (sX10_44 (by decide)) (dq tX10_isCounted 10 rfl) rfl (fun h_3l h_3u => ?_)
      refine g_iconst (n := 21) hx (dq tX10_isCounted 11 rfl) rfl ?_
      refine g_iadd (n := 22) hx (dq tX10_isCounted 12 rfl) rfl ?_
      refine g_putI (n := 25) hx plX10_281 (sX10_44 (by decide)) (dq tX10_isCounted 13 rfl) rfl (by omega) (by omega) (fun M_4 m_5e m_5 => ?_)
      have e_6 : M_4 229 37 = M 229 37 := (m_5 229 37 (by omega))
      have e_7 : M_4 229 38 = M 229 38 := (m_5 229 38 (by omega))
      have e_8 : M_4 229 39 = M 229 39 := (m_5 229 39 (by omega))
      exact g_vret hx hr (dq tX10_isCounted 14 rfl) ⟨(fun u_ v_ huv_ => (m_5 u_ v_ (by omega))), (Rd.ct ex0 (fun c j q => m_5 c j (by omega)) (fun _ => ⟨by omega, m_5e, by omega⟩)), (by omega), (by omega), (by omega), (by omega)⟩
    · refine g_aload_n (n := 10) hx 0 (dq tX10_isCounted 4 rfl) rfl rfl ?_
      refine g_iconst (n := 11) hx (dq tX10_isCounted 5 rfl) rfl ?_
      refine g_iload_n (n := 12) hx 1 (dq tX10_isCounted 6 rfl) rfl rfl ?_
      refine g_callVv (n := 15) (As := [vI 3, vI place]) (rest := []) hx (ctX10_fails3 Γ M 3 (by decide) (by decide) place (by omega) (by omega)) mlX10_284 (obX10 (by decide)) (dq tX10_isCounted 7 rfl) rfl (Nat.le_of_ble_eq_true rfl) (Nat.le_of_ble_eq_true rfl) (Nat.le_of_ble_eq_true rfl) rfl (fun M_10 p_12 => ?_)
      obtain ⟨f_13, h_14, h_15⟩ := p_12
      refine g_aload_n (n := 16) hx 0 (dq tX10_isCounted 8 rfl) rfl rfl ?_
      refine g_dup (n := 17) hx (dq tX10_isCounted 9 rfl) rfl rfl ?_
      refine g_getI (n := 20) hx glX10_281 (sX10_44 (by decide)) (dq tX10_isCounted 10 rfl) rfl (fun h_16l h_16u => ?_)
      have e_17 : M_10 229 44 = M 229 44 := (f_13 229 44 (by omega))
      refine g_iconst (n := 21) hx (dq tX10_isCounted 11 rfl) rfl ?_
      refine g_iadd (n := 22) hx (dq tX10_isCounted 12 rfl) rfl ?_
      refine g_any (fun z_18 h_19 => ?_)
      have e_20 : M_10 229 37 = M 229 37 := (f_13 229 37 (by omega))
      have e_21 : M_10 229 38 = M 229 38 := (f_13 229 38 (by omega))
      refine g_putI (n := 25) hx plX10_281 (sX10_44 (by decide)) (dq tX10_isCounted 13 rfl) rfl (by omega) (by omega) (fun M_22 m_23e m_23 => ?_)
      have e_24 : M_22 229 37 = M_10 229 37 := (m_23 229 37 (by omega))
      have e_25 : M_22 229 38 = M_10 229 38 := (m_23 229 38 (by omega))
      have e_26 : M_22 229 39 = M_10 229 39 := (m_23 229 39 (by omega))
      exact g_vret hx hr (dq tX10_isCounted 14 rfl) ⟨(fun u_ v_ huv_ => ((m_23 u_ v_ (by omega)).trans (f_13 u_ v_ (by omega)))), (Rd.vac (by omega)), (by omega), (by omega), (by omega), (by omega)⟩
  · refine g_aload_n (n := 1) hx 0 (dq tX10_isCounted 0 rfl) rfl rfl ?_
    refine g_getI (n := 4) hx glX10_281 (sX10_44 (by decide)) (dq tX10_isCounted 1 rfl) rfl (fun h_27l h_27u => ?_)
    refine g_bipush (n := 6) hx (dq tX10_isCounted 2 rfl) rfl (by decide) ?_
    refine g_icmp_ne (n := 9) (t := 15) hx (dq tX10_isCounted 3 rfl) (by decide) rfl (zrI h_27l h_27u (by decide) (by decide)) ⟨by decide, by decide⟩ (fun c_28 => ?_) (fun c_28 => ?_)
    · refine g_aload_n (n := 16) hx 0 (dq tX10_isCounted 8 rfl) rfl rfl ?_
      refine g_dup (n := 17) hx (dq tX10_isCounted 9 rfl) rfl rfl ?_
      refine g_getI (n := 20) hx glX10_281 (sX10_44 (by decide)) (dq tX10_isCounted 10 rfl) rfl (fun h_29l h_29u => ?_)
      refine g_iconst (n := 21) hx (dq tX10_isCounted 11 rfl) rfl ?_
      refine g_iadd (n := 22) hx (dq tX10_isCounted 12 rfl) rfl ?_
      refine g_any (fun z_30 h_31 => ?_)
      refine g_putI (n := 25) hx plX10_281 (sX10_44 (by decide)) (dq tX10_isCounted 13 rfl) rfl (by omega) (by omega) (fun M_32 m_33e m_33 => ?_)
      have e_34 : M_32 229 37 = M 229 37 := (m_33 229 37 (by omega))
      have e_35 : M_32 229 38 = M 229 38 := (m_33 229 38 (by omega))
      have e_36 : M_32 229 39 = M 229 39 := (m_33 229 39 (by omega))
      exact g_vret hx hr (dq tX10_isCounted 14 rfl) ⟨(fun u_ v_ huv_ => (m_33 u_ v_ (by omega))), (Rd.vac (by omega)), (by omega), (by omega), (by omega), (by omega)⟩
    · refine g_aload_n (n := 10) hx 0 (dq tX10_isCounted 4 rfl) rfl rfl ?_
      refine g_iconst (n := 11) hx (dq tX10_isCounted 5 rfl) rfl ?_
      refine g_iload_n (n := 12) hx 1 (dq tX10_isCounted 6 rfl) rfl rfl ?_
      refine g_callVv (n := 15) (As := [vI 3, vI place]) (rest := []) hx (ctX10_fails3 Γ M 3 (by decide) (by decide) place (by omega) (by omega)) mlX10_284 (obX10 (by decide)) (dq tX10_isCounted 7 rfl) rfl (Nat.le_of_ble_eq_true rfl) (Nat.le_of_ble_eq_true rfl) (Nat.le_of_ble_eq_true rfl) rfl (fun M_38 p_40 => ?_)
      obtain ⟨f_41, h_42, h_43⟩ := p_40
      refine g_aload_n (n := 16) hx 0 (dq tX10_isCounted 8 rfl) rfl rfl ?_
      refine g_dup (n := 17) hx (dq tX10_isCounted 9 rfl) rfl rfl ?_
      refine g_getI (n := 20) hx glX10_281 (sX10_44 (by decide)) (dq tX10_isCounted 10 rfl) rfl (fun h_44l h_44u => ?_)
      have e_45 : M_38 229 44 = M 229 44 := (f_41 229 44 (by omega))
      refine g_iconst (n := 21) hx (dq tX10_isCounted 11 rfl) rfl ?_
      refine g_iadd (n := 22) hx (dq tX10_isCounted 12 rfl) rfl ?_
      refine g_any (fun z_46 h_47 => ?_)
      have e_48 : M_38 229 37 = M 229 37 := (f_41 229 37 (by omega))
      have e_49 : M_38 229 38 = M 229 38 := (f_41 229 38 (by omega))
      refine g_putI (n := 25) hx plX10_281 (sX10_44 (by decide)) (dq tX10_isCounted 13 rfl) rfl (by omega) (by omega) (fun M_50 m_51e m_51 => ?_)
      have e_52 : M_50 229 37 = M_38 229 37 := (m_51 229 37 (by omega))
      have e_53 : M_50 229 38 = M_38 229 38 := (m_51 229 38 (by omega))
      have e_54 : M_50 229 39 = M_38 229 39 := (m_51 229 39 (by omega))
      exact g_vret hx hr (dq tX10_isCounted 14 rfl) ⟨(fun u_ v_ huv_ => ((m_51 u_ v_ (by omega)).trans (f_41 u_ v_ (by omega)))), (Rd.vac (by omega)), (by omega), (by omega), (by omega), (by omega)⟩

abbrev qctX10_digits3 (M : zM) (most : Int) (t9 : Nat → Int) (n9 : Nat) (a9 : Nat) (z : Int) (M' : zM) : Prop := (∀ u_ v_, (u_ ≠ 229 ∨ v_ ≠ 38) ∧ (u_ ≠ 229 ∨ v_ ≠ 39) → M' u_ v_ = M u_ v_) ∧ (M 229 38 ≤ M' 229 38) ∧ (M' 229 38 = M 229 38 ∨ M' 229 38 ≤ M 229 37) ∧ (M' 229 39 = 0 → M 229 39 = 0) ∧ (M 229 39 ≠ 0 → M' 229 39 = M 229 39) ∧ ((¬ (48 ≤ fst9 t9 n9 a9 ∧ fst9 t9 n9 a9 ≤ 57) ∧ M' 229 38 = a9 ∧ (M 229 39 = 0 → M' 229 39 = 1 + 8 * (a9 : Int))) ∨ ((48 ≤ fst9 t9 n9 a9 ∧ fst9 t9 n9 a9 ≤ 57) ∧ M' 229 38 = stp t9 n9 a9 ∧ (M 229 39 = 0 → ((a9 + 5 < stp t9 n9 a9 ∧ M' 229 39 = 1 + 8 * (a9 : Int) + 1) ∨ (stp t9 n9 a9 ≤ a9 + 5 ∧ M' 229 39 = 0 ∧ z = nv t9 a9 (stp t9 n9 a9 - a9))))))
set_option maxHeartbeats 4000000 in
set_option maxRecDepth 100000 in
theorem ctX10_digits3 (Γ : Gam) (M : zM) (most : Int) (hmostl : 99999 ≤ most) (hmostu : most ≤ 99999) (t9 : Nat → Int) (n9 : Nat) (a9 : Nat) (pre0 : M 229 38 = a9) (ex0 : Ty M t9 n9) : CtI Γ yX10_digits cX10_digits 4 (some .int) 2 45 [aR Γ 229, vI most] M (qctX10_digits3 M most t9 n9 a9) := by
  refine met_i (by decide) (Nat.le_of_ble_eq_true rfl) (fun x hx hr => ?_)
  show G Γ x 4 (QI Γ x (qctX10_digits3 M most t9 n9 a9)) M 0 [(0, aR Γ 229), (1, vI most)] []
  refine g_iv (fun hI0 => ?_)
  have hI_37 : (0 : Int) ≤ M 229 37 ∧ M 229 37 ≤ 400 := hI0 229 37
  have hI_38 : (0 : Int) ≤ M 229 38 ∧ M 229 38 ≤ 402 := hI0 229 38
  have hI_45 : (0 : Int) ≤ M 229 45 ∧ M 229 45 ≤ 402 := hI0 229 45
  have hI_42 : (0 : Int) ≤ M 229 42 ∧ M 229 42 ≤ 300 := hI0 229 42
  have hI_39 : (0 : Int) ≤ M 229 39 ∧ M 229 39 ≤ 100000 := hI0 229 39
  have hI_40 : (0 : Int) ≤ M 229 40 ∧ M 229 40 ≤ 5 := hI0 229 40
  have hI_41 : (0 : Int) ≤ M 229 41 ∧ M 229 41 ≤ 6 := hI0 229 41
  clear hI0
  have hty_n := ex0.1
  refine g_aload_n (n := 1) hx 0 (dq tX10_digits 0 rfl) rfl rfl ?_
  refine g_callVi (n := 4) (As := []) (rest := []) hx (ctX10_isDigit3 Γ M t9 n9 a9 (by omega) ex0) mlX10_288 (obX10 (by decide)) (dq tX10_digits 1 rfl) rfl (Nat.le_of_ble_eq_true rfl) (Nat.le_of_ble_eq_true rfl) (Nat.le_of_ble_eq_true rfl) rfl (fun z_1 M_2 h_3 p_4 => ?_)
  obtain ⟨rfl, h_6, h_7, h_8⟩ := p_4
  refine g_if_ne (n := 7) (t := 18) hx (dq tX10_digits 2 rfl) (by decide) rfl h_3 (fun c_9 => ?_) (fun c_9 => ?_)
  · have hdg := dg_in (t := t9) (n := n9) (a := a9) (by omega)
    have hdg1 := hdg.2.1
    have hdg2 := hdg.2.2
    refine g_aload_n (n := 19) hx 0 (dq tX10_digits 10 rfl) rfl rfl ?_
    refine g_getI (n := 22) hx glX10_249 (sX10_38 (by decide)) (dq tX10_digits 11 rfl) rfl (fun h_10l h_10u => ?_)
    refine g_istore_n (n := 23) (lv' := [(2, vI (M 229 38)), (0, aR Γ 229), (1, vI most)]) hx (dq tX10_digits 12 rfl) (by decide) rfl rfl ?_
    refine g_iconst (n := 24) hx (dq tX10_digits 13 rfl) rfl ?_
    refine g_istore_n (n := 25) (lv' := [(3, vI 0), (2, vI (M 229 38)), (0, aR Γ 229), (1, vI most)]) hx (dq tX10_digits 14 rfl) (by decide) rfl rfl ?_
    have L_13 : ∀ (n_ : Nat) (i_11 : Int) (M_12 : zM), (0 ≤ i_11) → (i_11 ≤ 99999) → (∀ u_ v_, (u_ ≠ 229 ∨ v_ ≠ 38) → M_12 u_ v_ = M u_ v_) → (Ty M_12 t9 n9) → (M 229 38 ≤ M_12 229 38) → (M_12 229 38 = M 229 38 ∨ M_12 229 38 ≤ M 229 37) → (wh t9 n9 48 57 (M_12 229 38).toNat = stp t9 n9 a9) → (M_12 229 38 ≤ a9 + 5 → i_11 = nv t9 a9 (M_12 229 38 - a9).toNat) → (M_12 229 38 = a9 → i_11 = 0) → (M_12 229 38 = a9 + 1 → i_11 ≤ 9) → (M_12 229 38 = a9 + 2 → i_11 ≤ 99) → (M_12 229 38 = a9 + 3 → i_11 ≤ 999) → (M_12 229 38 = a9 + 4 → i_11 ≤ 9999) → ((402 - M_12 229 38).toNat = n_) → G Γ x 4 (QI Γ x (qctX10_digits3 M most t9 n9 a9)) M_12 25 [(3, vI i_11), (2, vI (M 229 38)), (0, aR Γ 229), (1, vI most)] [] := by
      intro n_
      induction n_ using Nat.strongRecOn with
      | _ n_ ih_14 =>
        intro i_11 M_12 h_27 h_28 f_15 g_16 h_18 h_19 h_20 h_21 h_22 h_23 h_24 h_25 h_26 hm_17
        refine g_aload_n (n := 26) hx 2 (dq tX10_digits 15 rfl) rfl rfl ?_
        have e_29 : M_12 229 37 = M 229 37 := (f_15 229 37 (by omega))
        have e_30 : M_12 229 39 = M 229 39 := (f_15 229 39 (by omega))
        refine g_callVi (n := 29) (As := []) (rest := []) hx (ctX10_isDigit3 Γ M_12 t9 n9 ((M_12 229 38).toNat) (by omega) g_16) mlX10_288 (obX10 (by decide)) (dq tX10_digits 16 rfl) rfl (Nat.le_of_ble_eq_true rfl) (Nat.le_of_ble_eq_true rfl) (Nat.le_of_ble_eq_true rfl) rfl (fun z_31 M_32 h_33 p_34 => ?_)
        obtain ⟨rfl, h_36, h_37, h_38⟩ := p_34
        refine g_if_eq (n := 32) (t := 72) hx (dq tX10_digits 17 rfl) (by decide) rfl h_33 (fun c_39 => ?_) (fun c_39 => ?_)
        · have hde : M_12 229 38 = stp t9 n9 a9 := by have w1 := h_20; rw [wh_stop (dg_st (by omega))] at w1; omega
          refine g_aload_n (n := 73) hx 2 (dq tX10_digits 42 rfl) rfl rfl ?_
          refine g_getI (n := 76) hx glX10_249 (sX10_38 (by decide)) (dq tX10_digits 43 rfl) rfl (fun h_40l h_40u => ?_)
          refine g_iload_n (n := 77) hx 1 (dq tX10_digits 44 rfl) rfl rfl ?_
          refine g_isub (n := 78) hx (dq tX10_digits 45 rfl) rfl ?_
          refine g_iconst (n := 79) hx (dq tX10_digits 46 rfl) rfl ?_
          refine g_icmp_gt (n := 82) (t := 87) hx (dq tX10_digits 47 rfl) (by decide) rfl ⟨by omega, by omega⟩ ⟨by decide, by decide⟩ (fun c_41 => ?_) (fun c_41 => ?_)
          · refine g_aload_n (n := 88) hx 2 (dq tX10_digits 51 rfl) rfl rfl ?_
            refine g_iconst (n := 89) hx (dq tX10_digits 52 rfl) rfl ?_
            refine g_iload_n (n := 90) hx 1 (dq tX10_digits 53 rfl) rfl rfl ?_
            refine g_callVv (n := 93) (As := [vI 1, vI (M 229 38)]) (rest := []) hx (ctX10_fails3 Γ M_12 1 (by decide) (by decide) (M 229 38) (by omega) (by omega)) mlX10_284 (obX10 (by decide)) (dq tX10_digits 54 rfl) rfl (Nat.le_of_ble_eq_true rfl) (Nat.le_of_ble_eq_true rfl) (Nat.le_of_ble_eq_true rfl) rfl (fun M_43 p_45 => ?_)
            obtain ⟨f_46, h_47, h_48⟩ := p_45
            have g_49 : Ty M_43 t9 n9 := Ty.frame g_16 (fun c j hcj => f_46 c j (by omega))
            refine g_iload_n (n := 94) hx 0 (dq tX10_digits 55 rfl) rfl rfl ?_
            have e_50 : M_43 229 37 = M_12 229 37 := (f_46 229 37 (by omega))
            have e_51 : M_43 229 38 = M_12 229 38 := (f_46 229 38 (by omega))
            exact g_iret hx hr (dq tX10_digits 56 rfl) ⟨by omega, by omega⟩ ⟨(fun u_ v_ huv_ => ((f_46 u_ v_ (by omega)).trans (f_15 u_ v_ (by omega)))), (by omega), (by omega), (by omega), (by omega), (Or.inr ⟨by omega, by omega, fun q => Or.inl ⟨by omega, by omega⟩⟩)⟩
          · refine g_iload_n (n := 83) hx 0 (dq tX10_digits 48 rfl) rfl rfl ?_
            refine g_iload_n (n := 84) hx 3 (dq tX10_digits 49 rfl) rfl rfl ?_
            refine g_icmp_le (n := 87) (t := 93) hx (dq tX10_digits 50 rfl) (by decide) rfl ⟨by omega, by omega⟩ (zrI hmostl hmostu (by decide) (by decide)) (fun c_52 => ?_) (fun c_52 => ?_)
            · refine g_iload_n (n := 94) hx 0 (dq tX10_digits 55 rfl) rfl rfl ?_
              exact g_iret hx hr (dq tX10_digits 56 rfl) ⟨by omega, by omega⟩ ⟨(fun u_ v_ huv_ => (f_15 u_ v_ (by omega))), (by omega), (by omega), (by omega), (by omega), (Or.inr ⟨by omega, by omega, fun q => Or.inr ⟨by omega, by omega, by have w1 := h_21 (by omega); rw [show stp t9 n9 a9 - a9 = (M_12 229 38 - a9).toNat by omega]; exact w1⟩⟩)⟩
            · omega
        · have hdi := fst9_in (t := t9) (n := n9) (a := (M_12 229 38).toNat) (by omega)
          refine g_aload_n (n := 33) hx 2 (dq tX10_digits 18 rfl) rfl rfl ?_
          refine g_getI (n := 36) hx glX10_249 (sX10_38 (by decide)) (dq tX10_digits 19 rfl) rfl (fun h_53l h_53u => ?_)
          refine g_iload_n (n := 37) hx 1 (dq tX10_digits 20 rfl) rfl rfl ?_
          refine g_isub (n := 38) hx (dq tX10_digits 21 rfl) rfl ?_
          refine g_iconst (n := 39) hx (dq tX10_digits 22 rfl) rfl ?_
          refine g_icmp_ge (n := 42) (t := 57) hx (dq tX10_digits 23 rfl) (by decide) rfl ⟨by omega, by omega⟩ ⟨by decide, by decide⟩ (fun c_54 => ?_) (fun c_54 => ?_)
          · refine g_iload_n (n := 58) hx 0 (dq tX10_digits 33 rfl) rfl rfl ?_
            refine g_istore_n (n := 59) (lv' := [(3, vI i_11), (2, vI (M 229 38)), (0, aR Γ 229), (1, vI most)]) hx (dq tX10_digits 34 rfl) (by decide) rfl rfl ?_
            refine g_aload_n (n := 60) hx 2 (dq tX10_digits 35 rfl) rfl rfl ?_
            refine g_dup (n := 61) hx (dq tX10_digits 36 rfl) rfl rfl ?_
            refine g_getI (n := 64) hx glX10_249 (sX10_38 (by decide)) (dq tX10_digits 37 rfl) rfl (fun h_55l h_55u => ?_)
            refine g_iconst (n := 65) hx (dq tX10_digits 38 rfl) rfl ?_
            refine g_iadd (n := 66) hx (dq tX10_digits 39 rfl) rfl ?_
            refine g_putI (n := 69) hx plX10_249 (sX10_38 (by decide)) (dq tX10_digits 40 rfl) rfl (by omega) (by omega) (fun M_56 m_57e m_57 => ?_)
            have g_58 : Ty M_56 t9 n9 := Ty.frame g_16 (fun c j hcj => m_57 c j (by omega))
            refine g_goto (n := 25) hx (dq tX10_digits 41 rfl) (by decide) ?_
            have e_59 : M_56 229 37 = M_12 229 37 := (m_57 229 37 (by omega))
            have e_60 : M_56 229 39 = M_12 229 39 := (m_57 229 39 (by omega))
            exact ih_14 _ (by omega) i_11 M_56 (by omega) (by omega) (fun u_ v_ huv_ => ((m_57 u_ v_ (by omega)).trans (f_15 u_ v_ (by omega)))) g_58 (by omega) (by omega) (by rw [show (M_56 229 38).toNat = (M_12 229 38).toNat + 1 by omega, ← wh_go (t := t9) (n := n9) (lo := 48) (hi := 57) (a := (M_12 229 38).toNat) (by omega) (by omega) (by omega)]; exact h_20) (fun h5 => by rw [show (M_56 229 38 - a9).toNat = (M_12 229 38 - a9).toNat + 1 by omega]; exact nv_go (x := t9 ((M_12 229 38).toNat)) (h_21 (by omega)) (congrArg t9 (by omega)) (by omega)) (by omega) (by omega) (by omega) (by omega) (by omega) rfl
          · refine g_bipush (n := 44) hx (dq tX10_digits 24 rfl) rfl (by decide) ?_
            refine g_iload_n (n := 45) hx 0 (dq tX10_digits 25 rfl) rfl rfl ?_
            refine g_imul (n := 46) hx (dq tX10_digits 26 rfl) rfl ?_
            refine g_aload_n (n := 47) hx 2 (dq tX10_digits 27 rfl) rfl rfl ?_
            refine g_callVi (n := 50) (As := []) (rest := [vI (10 * i_11)]) hx (ctX10_sign3 Γ M_12 t9 n9 ((M_12 229 38).toNat) (by omega) g_16) mlX10_252 (obX10 (by decide)) (dq tX10_digits 28 rfl) rfl (Nat.le_of_ble_eq_true rfl) (Nat.le_of_ble_eq_true rfl) (Nat.le_of_ble_eq_true rfl) rfl (fun z_61 M_62 h_63 p_64 => ?_)
            obtain ⟨rfl, h_66, h_67, h_68, h_69⟩ := p_64
            refine g_iadd (n := 51) hx (dq tX10_digits 29 rfl) rfl ?_
            refine g_bipush (n := 53) hx (dq tX10_digits 30 rfl) rfl (by decide) ?_
            refine g_isub (n := 54) hx (dq tX10_digits 31 rfl) rfl ?_
            refine g_goto (n := 58) hx (dq tX10_digits 32 rfl) (by decide) ?_
            refine g_istore_n (n := 59) (lv' := [(3, vI (((10 * i_11) + z_61) - 48)), (2, vI (M 229 38)), (0, aR Γ 229), (1, vI most)]) hx (dq tX10_digits 34 rfl) (by decide) rfl rfl ?_
            refine g_aload_n (n := 60) hx 2 (dq tX10_digits 35 rfl) rfl rfl ?_
            refine g_dup (n := 61) hx (dq tX10_digits 36 rfl) rfl rfl ?_
            refine g_getI (n := 64) hx glX10_249 (sX10_38 (by decide)) (dq tX10_digits 37 rfl) rfl (fun h_70l h_70u => ?_)
            refine g_iconst (n := 65) hx (dq tX10_digits 38 rfl) rfl ?_
            refine g_iadd (n := 66) hx (dq tX10_digits 39 rfl) rfl ?_
            refine g_putI (n := 69) hx plX10_249 (sX10_38 (by decide)) (dq tX10_digits 40 rfl) rfl (by omega) (by omega) (fun M_71 m_72e m_72 => ?_)
            have g_73 : Ty M_71 t9 n9 := Ty.frame g_16 (fun c j hcj => m_72 c j (by omega))
            refine g_goto (n := 25) hx (dq tX10_digits 41 rfl) (by decide) ?_
            have e_74 : M_71 229 37 = M_12 229 37 := (m_72 229 37 (by omega))
            have e_75 : M_71 229 39 = M_12 229 39 := (m_72 229 39 (by omega))
            exact ih_14 _ (by omega) (((10 * i_11) + z_61) - 48) M_71 (by omega) (by omega) (fun u_ v_ huv_ => ((m_72 u_ v_ (by omega)).trans (f_15 u_ v_ (by omega)))) g_73 (by omega) (by omega) (by rw [show (M_71 229 38).toNat = (M_12 229 38).toNat + 1 by omega, ← wh_go (t := t9) (n := n9) (lo := 48) (hi := 57) (a := (M_12 229 38).toNat) (by omega) (by omega) (by omega)]; exact h_20) (fun h5 => by rw [show (M_71 229 38 - a9).toNat = (M_12 229 38 - a9).toNat + 1 by omega]; exact nv_go (x := t9 ((M_12 229 38).toNat)) (h_21 (by omega)) (congrArg t9 (by omega)) (by omega)) (by omega) (by omega) (by omega) (by omega) (by omega) rfl
    exact L_13 _ 0 M (by omega) (by omega) (fun _ _ _ => rfl) ex0 (by omega) (by omega) (by rw [show (M 229 38).toNat = a9 by omega]; exact hdg.1) (fun _ => by rw [show (M 229 38 - a9).toNat = 0 by omega]; rfl) (by omega) (by omega) (by omega) (by omega) (by omega) rfl
  · refine g_aload_n (n := 8) hx 0 (dq tX10_digits 3 rfl) rfl rfl ?_
    refine g_iconst (n := 9) hx (dq tX10_digits 4 rfl) rfl ?_
    refine g_aload_n (n := 10) hx 0 (dq tX10_digits 5 rfl) rfl rfl ?_
    refine g_getI (n := 13) hx glX10_249 (sX10_38 (by decide)) (dq tX10_digits 6 rfl) rfl (fun h_76l h_76u => ?_)
    refine g_callVv (n := 16) (As := [vI 0, vI (M 229 38)]) (rest := []) hx (ctX10_fails3 Γ M 0 (by decide) (by decide) (M 229 38) (by omega) (by omega)) mlX10_284 (obX10 (by decide)) (dq tX10_digits 7 rfl) rfl (Nat.le_of_ble_eq_true rfl) (Nat.le_of_ble_eq_true rfl) (Nat.le_of_ble_eq_true rfl) rfl (fun M_78 p_80 => ?_)
    obtain ⟨f_81, h_82, h_83⟩ := p_80
    have g_84 : Ty M_78 t9 n9 := Ty.frame ex0 (fun c j hcj => f_81 c j (by omega))
    refine g_iconst (n := 17) hx (dq tX10_digits 8 rfl) rfl ?_
    have e_85 : M_78 229 37 = M 229 37 := (f_81 229 37 (by omega))
    have e_86 : M_78 229 38 = M 229 38 := (f_81 229 38 (by omega))
    exact g_iret hx hr (dq tX10_digits 9 rfl) ⟨by decide, by decide⟩ ⟨(fun u_ v_ huv_ => (f_81 u_ v_ (by omega))), (by omega), (by omega), (by omega), (by omega), (Or.inl ⟨by omega, by omega, by omega⟩)⟩

abbrev qctX10_value3 (M : zM) (ua : Int) (ud : Int) (un : Int) (us : Int) (t9 : Nat → Int) (n9 : Nat) (a9 : Nat) (M' : zM) : Prop := (∀ u_ v_, (u_ ≠ 229 ∨ v_ ≠ 38) ∧ (u_ ≠ 229 ∨ v_ ≠ 39) ∧ (u_ ≠ 229 ∨ v_ ≠ 42) ∧ (u_ ≠ 229 ∨ v_ ≠ 44) ∧ u_ ≠ 229 + 38 ∧ u_ ≠ 229 + 39 → M' u_ v_ = M u_ v_) ∧ (Rd M' ua (ud + 1) un us) ∧ (Kp M M') ∧ (M 229 38 ≤ M' 229 38) ∧ (M' 229 38 = M 229 38 ∨ M' 229 38 ≤ M 229 37) ∧ (M' 229 39 = 0 → (M 229 39 = 0 ∧ M 229 44 ≤ M' 229 44)) ∧ (ovN t9 n9 (M' 229 38).toNat (M' 229 39) (M' 229 44) = bd (ovN t9 n9 a9 (M 229 39) (M 229 44)) (Vg t9 n9))
set_option maxHeartbeats 4000000 in
set_option maxRecDepth 100000 in
theorem ctX10_value3 (Γ : Gam) (M : zM) (ua : Int) (ud : Int) (un : Int) (us : Int) (t9 : Nat → Int) (n9 : Nat) (a9 : Nat) (pre0 : 0 ≤ us) (pre1 : 0 ≤ ud) (pre2 : M 229 38 = a9) (pre3 : M 229 39 = 0 → 0 ≤ M 229 44) (ex0 : Rd M ua ud un us) (ex1 : Ty M t9 n9) : CtV Γ yX10_value cX10_value 3 none 5 109 [aR Γ 229] M (qctX10_value3 M ua ud un us t9 n9 a9) := by
  refine met_v (by decide) (Nat.le_of_ble_eq_true rfl) (fun x hx hr => ?_)
  show G Γ x 3 (QV Γ x (qctX10_value3 M ua ud un us t9 n9 a9)) M 0 [(0, aR Γ 229)] []
  refine g_iv (fun hI0 => ?_)
  have hI_37 : (0 : Int) ≤ M 229 37 ∧ M 229 37 ≤ 400 := hI0 229 37
  have hI_38 : (0 : Int) ≤ M 229 38 ∧ M 229 38 ≤ 402 := hI0 229 38
  have hI_45 : (0 : Int) ≤ M 229 45 ∧ M 229 45 ≤ 402 := hI0 229 45
  have hI_42 : (0 : Int) ≤ M 229 42 ∧ M 229 42 ≤ 300 := hI0 229 42
  have hI_39 : (0 : Int) ≤ M 229 39 ∧ M 229 39 ≤ 100000 := hI0 229 39
  have hI_40 : (0 : Int) ≤ M 229 40 ∧ M 229 40 ≤ 5 := hI0 229 40
  have hI_41 : (0 : Int) ≤ M 229 41 ∧ M 229 41 ≤ 6 := hI0 229 41
  clear hI0
  have hty_n := ex1.1
  have hn60 : M 229 39 = 0 → M 229 44 ≤ 60 := fun q => (Rd.nums ex0 q).2.1
  refine g_aload_n (n := 1) hx 0 (dq tX10_value 0 rfl) rfl rfl ?_
  refine g_callVv (n := 4) (As := []) (rest := []) hx (ctX10_blanks3 Γ M t9 n9 a9 (by omega) ex1) mlX10_268 (obX10 (by decide)) (dq tX10_value 1 rfl) rfl (Nat.le_of_ble_eq_true rfl) (Nat.le_of_ble_eq_true rfl) (Nat.le_of_ble_eq_true rfl) rfl (fun M_2 p_4 => ?_)
  obtain ⟨f_5, h_6, h_7, h_8⟩ := p_4
  have g_9 : Kp M M_2 := Kp.frame Kp.refl (fun c j hcj => f_5 c j (by omega))
  have g_10 : Rd M_2 ua ud un us := Rd.mv ex0 (fun c j hcj => f_5 c j (by omega)) (by have q39 := f_5 229 39 (by omega); omega)
  have g_11 : Ty M_2 t9 n9 := Ty.frame ex1 (fun c j hcj => f_5 c j (by omega))
  refine g_aload_n (n := 5) hx 0 (dq tX10_value 2 rfl) rfl rfl ?_
  refine g_getI (n := 8) hx glX10_249 (sX10_38 (by decide)) (dq tX10_value 3 rfl) rfl (fun h_12l h_12u => ?_)
  refine g_istore_n (n := 9) (lv' := [(1, vI (M_2 229 38)), (0, aR Γ 229)]) hx (dq tX10_value 4 rfl) (by decide) rfl rfl ?_
  refine g_aload_n (n := 10) hx 1 (dq tX10_value 5 rfl) rfl rfl ?_
  have e_13 : M_2 229 37 = M 229 37 := (f_5 229 37 (by omega))
  have e_14 : M_2 229 39 = M 229 39 := (f_5 229 39 (by omega))
  have e_15 : M_2 229 44 = M 229 44 := (f_5 229 44 (by omega))
  refine g_callVi (n := 13) (As := []) (rest := []) hx (ctX10_isDigit3 Γ M_2 t9 n9 (sk t9 n9 a9) (by omega) g_11) mlX10_288 (obX10 (by decide)) (dq tX10_value 6 rfl) rfl (Nat.le_of_ble_eq_true rfl) (Nat.le_of_ble_eq_true rfl) (Nat.le_of_ble_eq_true rfl) rfl (fun z_16 M_17 h_18 p_19 => ?_)
  obtain ⟨rfl, h_21, h_22, h_23⟩ := p_19
  refine g_if_eq (n := 16) (t := 36) hx (dq tX10_value 7 rfl) (by decide) rfl h_18 (fun c_24 => ?_) (fun c_24 => ?_)
  · refine g_iconst (n := 37) hx (dq tX10_value 20 rfl) rfl ?_
    refine g_istore_n (n := 38) (lv' := [(2, vI 0), (1, vI (M_2 229 38)), (0, aR Γ 229)]) hx (dq tX10_value 21 rfl) (by decide) rfl rfl ?_
    have L_26 : ∀ (n_ : Nat) (i_25 : Int), (0 ≤ i_25) → (i_25 ≤ 13) → (NW t9 n9 (sk t9 n9 a9) wVal i_25) → ((13 - i_25).toNat = n_) → G Γ x 3 (QV Γ x (qctX10_value3 M ua ud un us t9 n9 a9)) M_2 38 [(2, vI i_25), (1, vI (M_2 229 38)), (0, aR Γ 229)] [] := by
      intro n_
      induction n_ using Nat.strongRecOn with
      | _ n_ ih_27 =>
        intro i_25 h_31 h_32 h_30 hm_29
        refine g_iload_n (n := 39) hx 0 (dq tX10_value 22 rfl) rfl rfl ?_
        refine g_aload_n (n := 40) hx 2 (dq tX10_value 23 rfl) rfl rfl ?_
        refine g_getI (n := 43) hx glX10_118 (sX10_46 (by decide)) (dq tX10_value 24 rfl) rfl (fun h_33l h_33u => ?_)
        refine g_icmp_ge (n := 46) (t := 63) hx (dq tX10_value 25 rfl) (by decide) rfl ⟨by omega, by omega⟩ (zrI h_33l h_33u (by decide) (by decide)) (fun c_34 => ?_) (fun c_34 => ?_)
        · refine g_iload_n (n := 64) hx 0 (dq tX10_value 33 rfl) rfl rfl ?_
          refine g_aload_n (n := 65) hx 2 (dq tX10_value 34 rfl) rfl rfl ?_
          refine g_getI (n := 68) hx glX10_118 (sX10_46 (by decide)) (dq tX10_value 35 rfl) rfl (fun h_35l h_35u => ?_)
          refine g_icmp_ne (n := 71) (t := 78) hx (dq tX10_value 36 rfl) (by decide) rfl ⟨by omega, by omega⟩ (zrI h_35l h_35u (by decide) (by decide)) (fun c_36 => ?_) (fun c_36 => ?_)
          · omega
          · refine g_aload_n (n := 72) hx 2 (dq tX10_value 37 rfl) rfl rfl ?_
            refine g_iconst (n := 73) hx (dq tX10_value 38 rfl) rfl ?_
            refine g_iload_n (n := 74) hx 1 (dq tX10_value 39 rfl) rfl rfl ?_
            refine g_callVv (n := 77) (As := [vI 0, vI (M_2 229 38)]) (rest := []) hx (ctX10_fails3 Γ M_2 0 (by decide) (by decide) (M_2 229 38) (by omega) (by omega)) mlX10_284 (obX10 (by decide)) (dq tX10_value 40 rfl) rfl (Nat.le_of_ble_eq_true rfl) (Nat.le_of_ble_eq_true rfl) (Nat.le_of_ble_eq_true rfl) rfl (fun M_38 p_40 => ?_)
            obtain ⟨f_41, h_42, h_43⟩ := p_40
            have g_44 : Kp M M_38 := Kp.frame g_9 (fun c j hcj => f_41 c j (by omega))
            have g_46 : Ty M_38 t9 n9 := Ty.frame g_11 (fun c j hcj => f_41 c j (by omega))
            have e_47 : M_38 229 37 = M_2 229 37 := (f_41 229 37 (by omega))
            have e_48 : M_38 229 38 = M_2 229 38 := (f_41 229 38 (by omega))
            have e_49 : M_38 229 44 = M_2 229 44 := (f_41 229 44 (by omega))
            exact g_vret hx hr (dq tX10_value 41 rfl) ⟨(fun u_ v_ huv_ => ((f_41 u_ v_ (by omega)).trans (f_5 u_ v_ (by omega)))), (Rd.vac (by omega)), g_44, (by omega), (by omega), (by omega), (ov_vno (a := sk t9 n9 a9) rfl (by omega) (NW.no h_30 (by have w1 := wVal_len; omega)) (by omega) (by omega))⟩
        · refine g_aload_n (n := 47) hx 2 (dq tX10_value 26 rfl) rfl rfl ?_
          refine g_iload_n (n := 48) hx 0 (dq tX10_value 27 rfl) rfl rfl ?_
          refine g_callSs (n := 51) (As := [vI i_25]) (rest := [aR Γ 229]) hx (ctX10_wordOf3 Γ M_2 i_25 (by omega) (by omega)) mlX10_302 (dq tX10_value 28 rfl) rfl (Nat.le_of_ble_eq_true rfl) (Nat.le_of_ble_eq_true rfl) (Nat.le_of_ble_eq_true rfl) rfl (fun z_50 M_51 p_53 => ?_)
          obtain ⟨rfl, h_55, h_56, h_57, h_58⟩ := p_53
          obtain ⟨qz_50, hz_50⟩ := sN_some z_50 (by omega)
          have hz_50n := sNle z_50 _ hz_50
          have hz_50l := sln_eq hz_50
          have h_59 := wlF_pos (k := i_25) (by omega) (by omega)
          refine g_callVi (n := 54) (As := [sR Γ z_50]) (rest := []) hx (ctX10_stood3 Γ M_2 z_50 _ hz_50 hz_50n t9 n9 (sk t9 n9 a9) (by omega) (by omega) g_11 h_56) mlX10_271 (obX10 (by decide)) (dq tX10_value 29 rfl) rfl (Nat.le_of_ble_eq_true rfl) (Nat.le_of_ble_eq_true rfl) (Nat.le_of_ble_eq_true rfl) rfl (fun z_60 M_61 h_62 p_63 => ?_)
          obtain ⟨rfl, h_65, h_66, h_67⟩ := p_63
          refine g_if_ne (n := 57) (t := 63) hx (dq tX10_value 30 rfl) (by decide) rfl h_62 (fun c_68 => ?_) (fun c_68 => ?_)
          · have h_69 := (stY h_67 (by omega)).2
            refine g_iload_n (n := 64) hx 0 (dq tX10_value 33 rfl) rfl rfl ?_
            refine g_aload_n (n := 65) hx 2 (dq tX10_value 34 rfl) rfl rfl ?_
            refine g_getI (n := 68) hx glX10_118 (sX10_46 (by decide)) (dq tX10_value 35 rfl) rfl (fun h_70l h_70u => ?_)
            refine g_icmp_ne (n := 71) (t := 78) hx (dq tX10_value 36 rfl) (by decide) rfl ⟨by omega, by omega⟩ (zrI h_70l h_70u (by decide) (by decide)) (fun c_71 => ?_) (fun c_71 => ?_)
            · refine g_aload_n (n := 79) hx 2 (dq tX10_value 42 rfl) rfl rfl ?_
              refine g_iload_n (n := 80) hx 1 (dq tX10_value 43 rfl) rfl rfl ?_
              refine g_callVv (n := 83) (As := [vI (M_2 229 38)]) (rest := []) hx (ctX10_isCounted3 Γ M_2 (M_2 229 38) (by omega) (by omega) ua ud un us g_10) mlX10_296 (obX10 (by decide)) (dq tX10_value 44 rfl) rfl (Nat.le_of_ble_eq_true rfl) (Nat.le_of_ble_eq_true rfl) (Nat.le_of_ble_eq_true rfl) rfl (fun M_73 p_75 => ?_)
              obtain ⟨f_76, h_77, h_78, h_79, h_80, h_81⟩ := p_75
              have g_82 : Kp M M_73 := Kp.frame g_9 (fun c j hcj => f_76 c j (by omega))
              have g_83 : Rd M_73 ua ud un (us + 6) := Rd.to h_77 (by omega) (by omega) (by omega)
              have g_84 : Ty M_73 t9 n9 := Ty.frame g_11 (fun c j hcj => f_76 c j (by omega))
              refine g_aload_n (n := 84) hx 2 (dq tX10_value 45 rfl) rfl rfl ?_
              refine g_dup (n := 85) hx (dq tX10_value 46 rfl) rfl rfl ?_
              refine g_getI (n := 88) hx glX10_249 (sX10_38 (by decide)) (dq tX10_value 47 rfl) rfl (fun h_85l h_85u => ?_)
              have e_86 : M_73 229 38 = M_2 229 38 := (f_76 229 38 (by omega))
              refine g_iload_n (n := 89) hx 0 (dq tX10_value 48 rfl) rfl rfl ?_
              have e_87 : M_73 229 37 = M_2 229 37 := (f_76 229 37 (by omega))
              refine g_callSs (n := 92) (As := [vI i_25]) (rest := [vI (M_73 229 38), aR Γ 229]) hx (ctX10_wordOf3 Γ M_73 i_25 (by omega) (by omega)) mlX10_302 (dq tX10_value 49 rfl) rfl (Nat.le_of_ble_eq_true rfl) (Nat.le_of_ble_eq_true rfl) (Nat.le_of_ble_eq_true rfl) rfl (fun z_88 M_89 p_91 => ?_)
              obtain ⟨rfl, h_93, h_94, h_95, h_96⟩ := p_91
              obtain ⟨qz_88, hz_88⟩ := sN_some z_88 (by omega)
              have hz_88n := sNle z_88 _ hz_88
              have hz_88l := sln_eq hz_88
              have h_97 := wlF_pos (k := i_25) (by omega) (by omega)
              refine g_callSt (n := 95) (As := []) (rest := [vI (M_73 229 38), aR Γ 229]) hx (ctJ0_length_8abf5 Γ M_73 z_88 _ hz_88) mlX10_260 rfl hz_88 (dq tX10_value 50 rfl) rfl (Nat.le_of_ble_eq_true rfl) (Nat.le_of_ble_eq_true rfl) (Nat.le_of_ble_eq_true rfl) rfl (fun z_98 M_99 h_100 p_101 => ?_)
              obtain ⟨rfl, h_102⟩ := p_101
              refine g_iadd (n := 96) hx (dq tX10_value 51 rfl) rfl ?_
              refine g_putI (n := 99) hx plX10_249 (sX10_38 (by decide)) (dq tX10_value 52 rfl) rfl (by omega) (by omega) (fun M_103 m_104e m_104 => ?_)
              have g_105 : Kp M M_103 := Kp.frame g_82 (fun c j hcj => m_104 c j (by omega))
              have g_106 : Rd M_103 ua ud un (us + 6) := Rd.mv g_83 (fun c j hcj => m_104 c j (by omega)) (by have q39 := m_104 229 39 (by omega); omega)
              have g_107 : Ty M_103 t9 n9 := Ty.frame g_84 (fun c j hcj => m_104 c j (by omega))
              refine g_aload_n (n := 100) hx 2 (dq tX10_value 53 rfl) rfl rfl ?_
              refine g_iconst (n := 101) hx (dq tX10_value 54 rfl) rfl ?_
              refine g_iload_n (n := 102) hx 0 (dq tX10_value 55 rfl) rfl rfl ?_
              have e_108 : M_103 229 37 = M_73 229 37 := (m_104 229 37 (by omega))
              have e_109 : M_103 229 39 = M_73 229 39 := (m_104 229 39 (by omega))
              have e_110 : M_103 229 44 = M_73 229 44 := (m_104 229 44 (by omega))
              refine g_callVv (n := 105) (As := [vI 1, vI i_25]) (rest := []) hx (ctX10_entry0 Γ M_103 1 (by decide) (by decide) i_25 (by omega) (by omega) ua ud un (us + 6) (by omega) (by omega) g_106) mlX10_299 (obX10 (by decide)) (dq tX10_value 56 rfl) rfl (Nat.le_of_ble_eq_true rfl) (Nat.le_of_ble_eq_true rfl) (Nat.le_of_ble_eq_true rfl) rfl (fun M_112 p_114 => ?_)
              obtain ⟨f_115, h_116, h_117⟩ := p_114
              have g_118 := Kp.trans g_105 h_117
              have g_119 : Rd M_112 ua (ud + 1) un us := Rd.to h_116 (by omega) (by omega) (by omega)
              have g_120 : Ty M_112 t9 n9 := Ty.frame g_107 (fun c j hcj => f_115 c j (by omega))
              have e_121 : M_112 229 37 = M_103 229 37 := (f_115 229 37 (by omega))
              have e_122 : M_112 229 38 = M_103 229 38 := (f_115 229 38 (by omega))
              have e_123 : M_112 229 39 = M_103 229 39 := (f_115 229 39 (by omega))
              have e_124 : M_112 229 44 = M_103 229 44 := (f_115 229 44 (by omega))
              exact g_vret hx hr (dq tX10_value 57 rfl) ⟨(fun u_ v_ huv_ => ((((f_115 u_ v_ (by omega)).trans (m_104 u_ v_ (by omega))).trans (f_76 u_ v_ (by omega))).trans (f_5 u_ v_ (by omega)))), (Rd.to g_119 (by omega) (by omega) (by omega)), g_118, (by omega), (by omega), (by omega), (ov_vwd (a := sk t9 n9 a9) rfl (by omega) (by have w1 := NW.at h_30 (by omega) (by have w1 := wVal_len; omega) h_55 (stY h_67 (by omega)).1; omega) (by omega) (by omega) (by omega))⟩
            · omega
          · refine g_iinc (n := 60) (lv' := [(2, vI (i_25 + 1)), (1, vI (M_2 229 38)), (0, aR Γ 229)]) hx 0 (dq tX10_value 31 rfl) rfl (by decide) rfl rfl ?_
            refine g_goto (n := 38) hx (dq tX10_value 32 rfl) (by decide) ?_
            exact ih_27 _ (by omega) (i_25 + 1) (by omega) (by omega) (NW.go h_30 (by omega) h_55 (stN h_67 (by omega)) rfl) rfl
    exact L_26 _ 0 (by omega) (by omega) NW.nil rfl
  · refine g_aload_n (n := 17) hx 1 (dq tX10_value 8 rfl) rfl rfl ?_
    refine g_ldcw (n := 20) (z := 99999) hx wd_1440 (by decide) (dq tX10_value 9 rfl) rfl ?_
    refine g_callVi (n := 23) (As := [vI 99999]) (rest := []) hx (ctX10_digits3 Γ M_2 99999 (by decide) (by decide) t9 n9 (sk t9 n9 a9) (by omega) g_11) mlX10_293 (obX10 (by decide)) (dq tX10_value 10 rfl) rfl (Nat.le_of_ble_eq_true rfl) (Nat.le_of_ble_eq_true rfl) (Nat.le_of_ble_eq_true rfl) rfl (fun z_125 M_126 h_127 p_128 => ?_)
    obtain ⟨f_129, h_130, h_131, h_132, h_133, h_134⟩ := p_128
    have g_135 : Kp M M_126 := Kp.frame g_9 (fun c j hcj => f_129 c j (by omega))
    have g_136 : Rd M_126 ua ud un us := Rd.mv g_10 (fun c j hcj => f_129 c j (by omega)) (by omega)
    have g_137 : Ty M_126 t9 n9 := Ty.frame g_11 (fun c j hcj => f_129 c j (by omega))
    refine g_istore_n (n := 24) (lv' := [(2, vI z_125), (1, vI (M_2 229 38)), (0, aR Γ 229)]) hx (dq tX10_value 11 rfl) (by decide) rfl rfl ?_
    refine g_aload_n (n := 25) hx 2 (dq tX10_value 12 rfl) rfl rfl ?_
    refine g_iload_n (n := 26) hx 1 (dq tX10_value 13 rfl) rfl rfl ?_
    have e_138 : M_126 229 37 = M_2 229 37 := (f_129 229 37 (by omega))
    have e_139 : M_126 229 44 = M_2 229 44 := (f_129 229 44 (by omega))
    refine g_callVv (n := 29) (As := [vI (M_2 229 38)]) (rest := []) hx (ctX10_isCounted3 Γ M_126 (M_2 229 38) (by omega) (by omega) ua ud un us g_136) mlX10_296 (obX10 (by decide)) (dq tX10_value 14 rfl) rfl (Nat.le_of_ble_eq_true rfl) (Nat.le_of_ble_eq_true rfl) (Nat.le_of_ble_eq_true rfl) rfl (fun M_141 p_143 => ?_)
    obtain ⟨f_144, h_145, h_146, h_147, h_148, h_149⟩ := p_143
    have g_150 : Kp M M_141 := Kp.frame g_135 (fun c j hcj => f_144 c j (by omega))
    have g_151 : Rd M_141 ua ud un (us + 6) := Rd.to h_145 (by omega) (by omega) (by omega)
    have g_152 : Ty M_141 t9 n9 := Ty.frame g_137 (fun c j hcj => f_144 c j (by omega))
    refine g_aload_n (n := 30) hx 2 (dq tX10_value 15 rfl) rfl rfl ?_
    refine g_iconst (n := 31) hx (dq tX10_value 16 rfl) rfl ?_
    refine g_iload_n (n := 32) hx 0 (dq tX10_value 17 rfl) rfl rfl ?_
    have e_153 : M_141 229 37 = M_126 229 37 := (f_144 229 37 (by omega))
    have e_154 : M_141 229 38 = M_126 229 38 := (f_144 229 38 (by omega))
    refine g_callVv (n := 35) (As := [vI 0, vI z_125]) (rest := []) hx (ctX10_entry0 Γ M_141 0 (by decide) (by decide) z_125 (by omega) (by omega) ua ud un (us + 6) (by omega) (by omega) g_151) mlX10_299 (obX10 (by decide)) (dq tX10_value 18 rfl) rfl (Nat.le_of_ble_eq_true rfl) (Nat.le_of_ble_eq_true rfl) (Nat.le_of_ble_eq_true rfl) rfl (fun M_156 p_158 => ?_)
    obtain ⟨f_159, h_160, h_161⟩ := p_158
    have g_162 := Kp.trans g_150 h_161
    have g_163 : Rd M_156 ua (ud + 1) un us := Rd.to h_160 (by omega) (by omega) (by omega)
    have g_164 : Ty M_156 t9 n9 := Ty.frame g_152 (fun c j hcj => f_159 c j (by omega))
    have e_165 : M_156 229 37 = M_141 229 37 := (f_159 229 37 (by omega))
    have e_166 : M_156 229 38 = M_141 229 38 := (f_159 229 38 (by omega))
    have e_167 : M_156 229 39 = M_141 229 39 := (f_159 229 39 (by omega))
    have e_168 : M_156 229 44 = M_141 229 44 := (f_159 229 44 (by omega))
    exact g_vret hx hr (dq tX10_value 19 rfl) ⟨(fun u_ v_ huv_ => ((((f_159 u_ v_ (by omega)).trans (f_144 u_ v_ (by omega))).trans (f_129 u_ v_ (by omega))).trans (f_5 u_ v_ (by omega)))), (Rd.to g_163 (by omega) (by omega) (by omega)), g_162, (by omega), (by omega), (by omega), (ov_vdig (a := sk t9 n9 a9) rfl (by omega) (by omega) (by omega) (by omega) (by omega))⟩
