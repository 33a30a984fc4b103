abbrev qctX7_rewind2 (M : zM) (t9 : Nat → Int) (n9 : Nat) (M' : zM) : Prop := (∀ u_ v_, (u_ ≠ 7 ∨ v_ ≠ 2) ∧ (u_ ≠ 7 ∨ v_ ≠ 3) ∧ (u_ ≠ 7 ∨ v_ ≠ 4) ∧ (u_ ≠ 7 ∨ v_ ≠ 5) → M' u_ v_ = M u_ v_) ∧ (M' 7 5 = 0) ∧ (Tc M' t9 n9 (sk t9 n9 0))
set_option maxHeartbeats 4000000 in
set_option maxRecDepth 100000 in
theorem ctX7_rewind2 (Γ : Gam) (M : zM) (t9 : Nat → Int) (n9 : Nat) (ex0 : Tx M t9 n9) : CtV Γ yX7_rewind cX7_rewind 1 none 1 23 [aR Γ 7] M (qctX7_rewind2 M t9 n9) := by
  refine met_v (by decide) (Nat.le_of_ble_eq_true rfl) (fun x hx hr => ?_)
  show G Γ x 1 (QV Γ x (qctX7_rewind2 M t9 n9)) M 0 [(0, aR Γ 7)] []
  refine g_aload_n (n := 1) hx 0 (dq tX7_rewind 0 rfl) rfl rfl ?_
  refine g_iconst (n := 2) hx (dq tX7_rewind 1 rfl) rfl ?_
  refine g_putI (n := 5) hx plX7_19 (sX7_5 (by decide)) (dq tX7_rewind 2 rfl) rfl (by omega) (by omega) (fun M_1 m_2e m_2 => ?_)
  refine g_aload_n (n := 6) hx 0 (dq tX7_rewind 3 rfl) rfl rfl ?_
  refine g_iconst (n := 7) hx (dq tX7_rewind 4 rfl) rfl ?_
  have e_3 : M_1 7 1 = M 7 1 := (m_2 7 1 (by omega))
  have e_4 : M_1 7 2 = M 7 2 := (m_2 7 2 (by omega))
  have e_5 : M_1 7 3 = M 7 3 := (m_2 7 3 (by omega))
  have e_6 : M_1 7 4 = M 7 4 := (m_2 7 4 (by omega))
  refine g_putI (n := 10) hx plX7_22 (sX7_3 (by decide)) (dq tX7_rewind 5 rfl) rfl (by omega) (by omega) (fun M_7 m_8e m_8 => ?_)
  refine g_aload_n (n := 11) hx 0 (dq tX7_rewind 6 rfl) rfl rfl ?_
  have e_9 : M_7 7 1 = M_1 7 1 := (m_8 7 1 (by omega))
  have e_10 : M_7 7 2 = M_1 7 2 := (m_8 7 2 (by omega))
  have e_11 : M_7 7 4 = M_1 7 4 := (m_8 7 4 (by omega))
  refine g_callVv (n := 14) (As := []) (rest := []) hx (ctX7_pass2 Γ M_7 t9 n9 0 (by omega) (by omega) (Tx.frame ex0 (fun c j hcj => ((m_8 c j (by omega)).trans (m_2 c j (by omega)))))) mlX7_25 (obX7 (by decide)) (dq tX7_rewind 7 rfl) rfl (Nat.le_of_ble_eq_true rfl) (Nat.le_of_ble_eq_true rfl) (Nat.le_of_ble_eq_true rfl) rfl (fun M_13 p_15 => ?_)
  obtain ⟨f_16, g_17, h_18⟩ := p_15
  have e_19 : M_13 7 1 = M_7 7 1 := (f_16 7 1 (by omega))
  exact g_vret hx hr (dq tX7_rewind 8 rfl) ⟨(fun u_ v_ huv_ => (((f_16 u_ v_ (by omega)).trans (m_8 u_ v_ (by omega))).trans (m_2 u_ v_ (by omega)))), ((((f_16 7 5 (by omega)).trans (m_8 7 5 (by omega)))).trans m_2e), h_18⟩

abbrev qctX7_isNumber2 (M : zM) (t9 : Nat → Int) (n9 : Nat) (a9 : Nat) (z : Int) (M' : zM) : Prop := M = M' ∧ 0 ≤ z ∧ z ≤ 1 ∧ ((z = 1 ∧ 48 ≤ fst9 t9 n9 a9 ∧ fst9 t9 n9 a9 ≤ 57) ∨ (z = 0 ∧ ¬ (48 ≤ fst9 t9 n9 a9 ∧ fst9 t9 n9 a9 ≤ 57)))
set_option maxHeartbeats 4000000 in
set_option maxRecDepth 100000 in
theorem ctX7_isNumber2 (Γ : Gam) (M : zM) (t9 : Nat → Int) (n9 : Nat) (a9 : Nat) (ex0 : Tc M t9 n9 a9) : CtI Γ yX7_isNumber cX7_isNumber 1 (some .boolean) 0 0 [aR Γ 7] M (qctX7_isNumber2 M t9 n9 a9) := by
  refine met_i (by decide) (Nat.le_of_ble_eq_true rfl) (fun x hx hr => ?_)
  show G Γ x 1 (QI Γ x (qctX7_isNumber2 M t9 n9 a9)) M 0 [(0, aR Γ 7)] []
  have ht_at := Tc.at ex0
  have ht_fst := Tc.fst ex0
  have ht_le := Tc.le ex0
  have ht_stop := Tc.stop ex0
  have ht_sle := Tc.sle ex0
  have ht_n := (Tc.tx ex0).1
  have ht_r := stp_le t9 n9 a9 ht_le
  refine g_aload_n (n := 1) hx 0 (dq tX7_isNumber 0 rfl) rfl rfl ?_
  refine g_getI (n := 4) hx glX7_31 (sX7_4 (by decide)) (dq tX7_isNumber 1 rfl) rfl (fun h_1l h_1u => ?_)
  refine g_bipush (n := 6) hx (dq tX7_isNumber 2 rfl) rfl (by decide) ?_
  refine g_icmp_lt (n := 9) (t := 22) hx (dq tX7_isNumber 3 rfl) (by decide) rfl (zrI h_1l h_1u (by decide) (by decide)) ⟨by decide, by decide⟩ (fun c_2 => ?_) (fun c_2 => ?_)
  · refine g_iconst (n := 23) hx (dq tX7_isNumber 10 rfl) rfl ?_
    exact g_zret hx hr (dq tX7_isNumber 11 rfl) (by omega) ⟨rfl, (by omega), (by omega), (by omega)⟩
  · refine g_aload_n (n := 10) hx 0 (dq tX7_isNumber 4 rfl) rfl rfl ?_
    refine g_getI (n := 13) hx glX7_31 (sX7_4 (by decide)) (dq tX7_isNumber 5 rfl) rfl (fun h_3l h_3u => ?_)
    refine g_bipush (n := 15) hx (dq tX7_isNumber 6 rfl) rfl (by decide) ?_
    refine g_icmp_gt (n := 18) (t := 22) hx (dq tX7_isNumber 7 rfl) (by decide) rfl (zrI h_3l h_3u (by decide) (by decide)) ⟨by decide, by decide⟩ (fun c_4 => ?_) (fun c_4 => ?_)
    · refine g_iconst (n := 23) hx (dq tX7_isNumber 10 rfl) rfl ?_
      exact g_zret hx hr (dq tX7_isNumber 11 rfl) (by omega) ⟨rfl, (by omega), (by omega), (by omega)⟩
    · refine g_iconst (n := 19) hx (dq tX7_isNumber 8 rfl) rfl ?_
      refine g_goto (n := 23) hx (dq tX7_isNumber 9 rfl) (by decide) ?_
      exact g_zret hx hr (dq tX7_isNumber 11 rfl) (by omega) ⟨rfl, (by omega), (by omega), (by omega)⟩

abbrev qctX7_number2 (M : zM) (t9 : Nat → Int) (n9 : Nat) (a9 : Nat) (z : Int) (M' : zM) : Prop := M = M' ∧ (-1) ≤ z ∧ z ≤ 99999 ∧ (z = -1 ↔ a9 + 5 < stp t9 n9 a9)
set_option maxHeartbeats 4000000 in
set_option maxRecDepth 100000 in
theorem ctX7_number2 (Γ : Gam) (M : zM) (t9 : Nat → Int) (n9 : Nat) (a9 : Nat) (pre0 : 48 ≤ fst9 t9 n9 a9 ∧ fst9 t9 n9 a9 ≤ 57) (ex0 : Tc M t9 n9 a9) : CtI Γ yX7_number cX7_number 3 (some .int) 0 0 [aR Γ 7] M (qctX7_number2 M t9 n9 a9) := by
  refine met_i (by decide) (Nat.le_of_ble_eq_true rfl) (fun x hx hr => ?_)
  show G Γ x 3 (QI Γ x (qctX7_number2 M t9 n9 a9)) M 0 [(0, aR Γ 7)] []
  have ht_at := Tc.at ex0
  have ht_fst := Tc.fst ex0
  have ht_le := Tc.le ex0
  have ht_stop := Tc.stop ex0
  have ht_sle := Tc.sle ex0
  have ht_n := (Tc.tx ex0).1
  have ht_r := stp_le t9 n9 a9 ht_le
  have hlt : a9 < n9 := by by_cases z : a9 < n9; exact z; rw [fst9_out (by omega)] at pre0; omega
  rw [fst9_in hlt] at pre0
  refine g_aload_n (n := 1) hx 0 (dq tX7_number 0 rfl) rfl rfl ?_
  refine g_getI (n := 4) hx glX7_22 (sX7_3 (by decide)) (dq tX7_number 1 rfl) rfl (fun h_1l h_1u => ?_)
  refine g_aload_n (n := 5) hx 0 (dq tX7_number 2 rfl) rfl rfl ?_
  refine g_getI (n := 8) hx glX7_28 (sX7_2 (by decide)) (dq tX7_number 3 rfl) rfl (fun h_2l h_2u => ?_)
  refine g_isub (n := 9) hx (dq tX7_number 4 rfl) rfl ?_
  refine g_iconst (n := 10) hx (dq tX7_number 5 rfl) rfl ?_
  refine g_icmp_le (n := 13) (t := 15) hx (dq tX7_number 6 rfl) (by decide) rfl ⟨by omega, by omega⟩ ⟨by decide, by decide⟩ (fun c_3 => ?_) (fun c_3 => ?_)
  · refine g_iconst (n := 16) hx (dq tX7_number 9 rfl) rfl ?_
    refine g_istore_n (n := 17) (lv' := [(1, vI 0), (0, aR Γ 7)]) hx (dq tX7_number 10 rfl) (by decide) rfl rfl ?_
    refine g_aload_n (n := 18) hx 1 (dq tX7_number 11 rfl) rfl rfl ?_
    refine g_getI (n := 21) hx glX7_28 (sX7_2 (by decide)) (dq tX7_number 12 rfl) rfl (fun h_4l h_4u => ?_)
    refine g_istore_n (n := 22) (lv' := [(2, vI (M 7 2)), (1, vI 0), (0, aR Γ 7)]) hx (dq tX7_number 13 rfl) (by decide) rfl rfl ?_
    have L_7 : ∀ (n_ : Nat) (i_5 : Int) (i_6 : Int), (0 ≤ i_5) → (i_5 ≤ 400) → (0 ≤ i_6) → (i_6 ≤ 99999) → ((a9 : Int) ≤ i_5) → (i_5 ≤ stp t9 n9 a9) → (i_5 = a9 → i_6 = 0) → (i_5 = a9 + 1 → i_6 ≤ 9) → (i_5 = a9 + 2 → i_6 ≤ 99) → (i_5 = a9 + 3 → i_6 ≤ 999) → (i_5 = a9 + 4 → i_6 ≤ 9999) → ((400 - i_5).toNat = n_) → G Γ x 3 (QI Γ x (qctX7_number2 M t9 n9 a9)) M 22 [(2, vI i_5), (1, vI i_6), (0, aR Γ 7)] [] := by
      intro n_
      induction n_ using Nat.strongRecOn with
      | _ n_ ih_8 =>
        intro i_5 i_6 h_18 h_19 h_20 h_21 h_11 h_12 h_13 h_14 h_15 h_16 h_17 hm_10
        refine g_iload_n (n := 23) hx 0 (dq tX7_number 14 rfl) rfl rfl ?_
        refine g_aload_n (n := 24) hx 2 (dq tX7_number 15 rfl) rfl rfl ?_
        refine g_getI (n := 27) hx glX7_22 (sX7_3 (by decide)) (dq tX7_number 16 rfl) rfl (fun h_22l h_22u => ?_)
        refine g_icmp_ge (n := 30) (t := 51) hx (dq tX7_number 17 rfl) (by decide) rfl ⟨by omega, by omega⟩ (zrI h_22l h_22u (by decide) (by decide)) (fun c_23 => ?_) (fun c_23 => ?_)
        · refine g_iload_n (n := 52) hx 1 (dq tX7_number 31 rfl) rfl rfl ?_
          exact g_iret hx hr (dq tX7_number 32 rfl) ⟨by omega, by omega⟩ ⟨rfl, (by omega), (by omega), (by omega)⟩
        · refine g_iload_n (n := 31) hx 1 (dq tX7_number 18 rfl) rfl rfl ?_
          refine g_bipush (n := 33) hx (dq tX7_number 19 rfl) rfl (by decide) ?_
          refine g_imul (n := 34) hx (dq tX7_number 20 rfl) rfl ?_
          refine g_aload_n (n := 35) hx 2 (dq tX7_number 21 rfl) rfl rfl ?_
          refine g_getR (n := 38) hx glX7_9 (sX7_0 (by decide)) (dq tX7_number 22 rfl) rfl ?_
          refine g_iload_n (n := 39) hx 0 (dq tX7_number 23 rfl) rfl rfl ?_
          refine g_iald (n := 40) (q := i_5.toNat) hx (aX7_0 (b := 7) (by decide)) (dq tX7_number 24 rfl) rfl (by omega) (by omega) (by omega) rfl (fun h_24l h_24u => ?_)
          have h_25 : M (7 + 1) i_5.toNat = t9 i_5.toNat := (Tc.tx ex0).2 i_5.toNat (by omega)
          have h_25d := dig_in (t := t9) (n := n9) (a := a9) (by omega) (by omega) (by omega) i_5.toNat (by omega) (by omega)
          refine g_iadd (n := 41) hx (dq tX7_number 25 rfl) rfl ?_
          refine g_bipush (n := 43) hx (dq tX7_number 26 rfl) rfl (by decide) ?_
          refine g_isub (n := 44) hx (dq tX7_number 27 rfl) rfl ?_
          refine g_istore_n (n := 45) (lv' := [(1, vI (((i_6 * 10) + (M (7 + 1) i_5.toNat)) - 48)), (2, vI i_5), (0, aR Γ 7)]) hx (dq tX7_number 28 rfl) (by decide) rfl rfl ?_
          refine g_iinc (n := 48) (lv' := [(2, vI (i_5 + 1)), (1, vI (((i_6 * 10) + (M (7 + 1) i_5.toNat)) - 48)), (0, aR Γ 7)]) hx 1 (dq tX7_number 29 rfl) rfl (by decide) rfl rfl ?_
          refine g_goto (n := 22) hx (dq tX7_number 30 rfl) (by decide) ?_
          exact ih_8 _ (by omega) (i_5 + 1) (((i_6 * 10) + (M (7 + 1) i_5.toNat)) - 48) (by omega) (by omega) (by omega) (by omega) (by first | assumption | omega) (by first | assumption | omega) (by first | assumption | omega) (by first | assumption | omega) (by first | assumption | omega) (by first | assumption | omega) (by first | assumption | omega) rfl
    exact L_7 _ (M 7 2) 0 (by omega) (by omega) (by omega) (by omega) (by first | assumption | omega) (by first | assumption | omega) (by first | assumption | omega) (by first | assumption | omega) (by first | assumption | omega) (by first | assumption | omega) (by first | assumption | omega) rfl
  · refine g_iconst (n := 14) hx (dq tX7_number 7 rfl) rfl ?_
    exact g_iret hx hr (dq tX7_number 8 rfl) ⟨by decide, by decide⟩ ⟨rfl, (by omega), (by omega), (by omega)⟩

abbrev qctX7_takesWord2 (M : zM) (w : Nat) (t9 : Nat → Int) (n9 : Nat) (a9 : Nat) (z : Int) (M' : zM) : Prop := (∀ u_ v_, (u_ ≠ 7 ∨ v_ ≠ 2) ∧ (u_ ≠ 7 ∨ v_ ≠ 3) ∧ (u_ ≠ 7 ∨ v_ ≠ 4) → M' u_ v_ = M u_ v_) ∧ 0 ≤ z ∧ z ≤ 1 ∧ ((z = 0 ∧ wiR t9 a9 ((stp t9 n9 a9 : Int) - a9) w ≠ 0) ∨ (z = 1 ∧ wiR t9 a9 ((stp t9 n9 a9 : Int) - a9) w = 0)) ∧ (Tc M' t9 n9 (if z = 0 then a9 else nx t9 n9 a9))
set_option maxHeartbeats 4000000 in
set_option maxRecDepth 100000 in
theorem ctX7_takesWord2 (Γ : Gam) (M : zM) (w : Nat) (qw : String × Nat × String × Nat) (hw : sN[w]? = some qw) (hwn : qw.2.2.2 ≤ 100) (t9 : Nat → Int) (n9 : Nat) (a9 : Nat) (ex0 : Tc M t9 n9 a9) : CtI Γ yX7_takesWord cX7_takesWord 2 (some .boolean) 5 110 [aR Γ 7, sR Γ w] M (qctX7_takesWord2 M w t9 n9 a9) := by
  refine met_i (by decide) (Nat.le_of_ble_eq_true rfl) (fun x hx hr => ?_)
  show G Γ x 2 (QI Γ x (qctX7_takesWord2 M w t9 n9 a9)) M 0 [(0, aR Γ 7), (1, sR Γ w)] []
  have ht_at := Tc.at ex0
  have ht_fst := Tc.fst ex0
  have ht_le := Tc.le ex0
  have ht_stop := Tc.stop ex0
  have ht_sle := Tc.sle ex0
  have ht_n := (Tc.tx ex0).1
  have ht_r := stp_le t9 n9 a9 ht_le
  refine g_aload_n (n := 1) hx 0 (dq tX7_takesWord 0 rfl) rfl rfl ?_
  refine g_aload_nS (n := 2) hx 1 (dq tX7_takesWord 1 rfl) rfl rfl ?_
  refine g_callVi (n := 5) (As := [sR Γ w]) (rest := []) hx (ctX7_wordIn2 Γ M w _ hw hwn t9 n9 a9 ex0) mlX7_44 (obX7 (by decide)) (dq tX7_takesWord 2 rfl) rfl (Nat.le_of_ble_eq_true rfl) (Nat.le_of_ble_eq_true rfl) (Nat.le_of_ble_eq_true rfl) rfl (fun z_1 M_2 h_3 p_4 => ?_)
  obtain ⟨rfl, h_6⟩ := p_4
  refine g_if_eq (n := 8) (t := 10) hx (dq tX7_takesWord 3 rfl) (by decide) rfl h_3 (fun c_7 => ?_) (fun c_7 => ?_)
  · refine g_aload_n (n := 11) hx 0 (dq tX7_takesWord 6 rfl) rfl rfl ?_
    refine g_callVv (n := 14) (As := []) (rest := []) hx (ctX7_pass2 Γ M t9 n9 (stp t9 n9 a9) (by omega) (by omega) (Tc.tx ex0)) mlX7_25 (obX7 (by decide)) (dq tX7_takesWord 7 rfl) rfl (Nat.le_of_ble_eq_true rfl) (Nat.le_of_ble_eq_true rfl) (Nat.le_of_ble_eq_true rfl) rfl (fun M_9 p_11 => ?_)
    obtain ⟨f_12, g_13, h_14⟩ := p_11
    have g_15 : Tc M_9 t9 n9 (nx t9 n9 a9) := h_14
    refine g_iconst (n := 15) hx (dq tX7_takesWord 8 rfl) rfl ?_
    have e_16 : M_9 7 1 = M 7 1 := (f_12 7 1 (by omega))
    exact g_zret hx hr (dq tX7_takesWord 9 rfl) (by omega) ⟨(fun u_ v_ huv_ => (f_12 u_ v_ (by omega))), (by omega), (by omega), (by omega), g_15⟩
  · refine g_iconst (n := 9) hx (dq tX7_takesWord 4 rfl) rfl ?_
    exact g_zret hx hr (dq tX7_takesWord 5 rfl) (by omega) ⟨(fun _ _ _ => rfl), (by omega), (by omega), (by omega), ex0⟩
