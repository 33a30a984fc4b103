abbrev qctX9_rule2 (M : zM) (t9 : Nat → Int) (n9 : Nat) (z : Int) (M' : zM) : Prop := (∀ u_ v_, (u_ ≠ 7 ∨ v_ ≠ 1) ∧ (u_ ≠ 7 ∨ v_ ≠ 2) ∧ (u_ ≠ 7 ∨ v_ ≠ 3) ∧ (u_ ≠ 7 ∨ v_ ≠ 4) ∧ (u_ ≠ 7 ∨ v_ ≠ 5) ∧ (u_ ≠ 18 ∨ v_ ≠ 1) ∧ (u_ ≠ 0 ∨ v_ ≠ 4) ∧ (u_ < 0 + 19 ∨ 0 + 37 ≤ u_) → M' u_ v_ = M u_ v_) ∧ Gd M' 37 (45 + 1) ∧ (6 ≤ M 0 4 → (z = -1 ∧ M' 0 4 = M 0 4 ∧ M' 7 1 = M 7 1 ∧ ∀ j : Nat, M' 8 j = M 8 j)) ∧ (M 0 4 < 6 → (M' 7 1 = 0 ∧ Ro (Rule9 t9 n9) (M 0 4) z (M' 0 4)))
set_option maxHeartbeats 4000000 in
set_option maxRecDepth 100000 in
theorem ctX9_rule2 (Γ : Gam) (M : zM) (t9 : Nat → Int) (n9 : Nat) (gd0 : Gd M 37 (45 + 1)) (ex0 : Tx M t9 n9) : CtI Γ yX9_rule cX9_rule 2 (some .int) 35 1191 [aR Γ 0] M (qctX9_rule2 M t9 n9) := by
  refine met_i (by decide) (Nat.le_of_ble_eq_true rfl) (fun x hx hr => ?_)
  show G Γ x 2 (QI Γ x (qctX9_rule2 M t9 n9)) M 0 [(0, aR Γ 0)] []
  refine g_iv (fun hI0 => ?_)
  have hI_r : (0 : Int) ≤ M 0 4 ∧ M 0 4 ≤ 6 := hI0 0 4
  clear hI0
  refine g_aload_n (n := 1) hx 0 (dq tX9_rule 0 rfl) rfl rfl ?_
  refine g_getI (n := 4) hx glX9_120 (sX9_4 (by decide)) (dq tX9_rule 1 rfl) rfl (fun h_1l h_1u => ?_)
  refine g_bipush (n := 6) hx (dq tX9_rule 2 rfl) rfl (by decide) ?_
  refine g_icmp_lt (n := 9) (t := 11) hx (dq tX9_rule 3 rfl) (by decide) rfl (zrI h_1l h_1u (by decide) (by decide)) ⟨by decide, by decide⟩ (fun c_2 => ?_) (fun c_2 => ?_)
  · refine g_aload_n (n := 12) hx 0 (dq tX9_rule 6 rfl) rfl rfl ?_
    refine g_getR (n := 15) hx glX9_28 (sX9_2 (by decide)) (dq tX9_rule 7 rfl) rfl ?_
    refine g_aload_n (n := 16) hx 0 (dq tX9_rule 8 rfl) rfl rfl ?_
    refine g_getR (n := 19) hx glX9_34 (sX9_3 (by decide)) (dq tX9_rule 9 rfl) rfl ?_
    refine g_aload_n (n := 20) hx 0 (dq tX9_rule 10 rfl) rfl rfl ?_
    refine g_getI (n := 23) hx glX9_120 (sX9_4 (by decide)) (dq tX9_rule 11 rfl) rfl (fun h_3l h_3u => ?_)
    refine g_aald (n := 24) (q := (M 0 4).toNat) hx (aX9_3 (b := 0) (by decide)) (by decide) (dq tX9_rule 12 rfl) rfl (by omega) (by omega) (by omega) rfl ?_
    refine g_named (c := zrf 1 ((M 0 4).toNat)) (fun o_4 eo_4 => ?_)
    have o_5 : isX4 o_4 := by rw [eo_4]; exact zrfX4 ((M 0 4).toNat) (by omega)
    refine g_callVi (n := 27) (As := [aR Γ o_4]) (rest := []) hx (ctX5_reads2 Γ M o_4 o_5 t9 n9 ex0) mlX9_123 (obX5 (by decide)) (dq tX9_rule 13 rfl) rfl (Nat.le_of_ble_eq_true rfl) (Nat.le_of_ble_eq_true rfl) (Nat.le_of_ble_eq_true rfl) rfl (fun z_6 M_7 h_8 p_9 => ?_)
    obtain ⟨f_10, h_11, h_12, h_13⟩ := p_9
    have g_14 : Gd M_7 37 (45 + 1) := Gd.frame gd0 (fun c j hcj => f_10 c j (by omega))
    refine g_istore_n (n := 28) (lv' := [(1, vI z_6), (0, aR Γ 0)]) hx (dq tX9_rule 14 rfl) (by decide) rfl rfl ?_
    refine g_aload_n (n := 29) hx 1 (dq tX9_rule 15 rfl) rfl rfl ?_
    refine g_getR (n := 32) hx glX9_10 (sX9_0 (by decide)) (dq tX9_rule 16 rfl) rfl ?_
    refine g_iconst (n := 33) hx (dq tX9_rule 17 rfl) rfl ?_
    have e_15 : M_7 37 1 = M 37 1 := (f_10 37 1 (by omega))
    have e_16 : M_7 37 3 = M 37 3 := (f_10 37 3 (by omega))
    have e_17 : M_7 0 4 = M 0 4 := (f_10 0 4 (by omega))
    have e_18 : M_7 7 1 = M 7 1 := (f_10 7 1 (by omega))
    refine g_putI (n := 36) hx plX9_78 (sX7_1 (by decide)) (dq tX9_rule 18 rfl) rfl (by omega) (by omega) (fun M_19 m_20e m_20 => ?_)
    have g_21 : Gd M_19 37 (45 + 1) := Gd.frame g_14 (fun c j hcj => m_20 c j (by omega))
    refine g_iload_n (n := 37) hx 0 (dq tX9_rule 19 rfl) rfl rfl ?_
    refine g_if_ne (n := 40) (t := 51) hx (dq tX9_rule 20 rfl) (by decide) rfl h_8 (fun c_22 => ?_) (fun c_22 => ?_)
    · obtain ⟨y_23q, y_23e⟩ := Rz.ok h_13 (by omega)
      refine g_aload_n (n := 52) hx 1 (dq tX9_rule 27 rfl) rfl rfl ?_
      refine g_dup (n := 53) hx (dq tX9_rule 28 rfl) rfl rfl ?_
      refine g_getI (n := 56) hx glX9_120 (sX9_4 (by decide)) (dq tX9_rule 29 rfl) rfl (fun h_24l h_24u => ?_)
      have e_25 : M_19 0 4 = M_7 0 4 := (m_20 0 4 (by omega))
      refine g_iconst (n := 57) hx (dq tX9_rule 30 rfl) rfl ?_
      refine g_iadd (n := 58) hx (dq tX9_rule 31 rfl) rfl ?_
      have e_26 : M_19 37 1 = M_7 37 1 := (m_20 37 1 (by omega))
      have e_27 : M_19 37 3 = M_7 37 3 := (m_20 37 3 (by omega))
      have e_28 : M_19 7 5 = M_7 7 5 := (m_20 7 5 (by omega))
      refine g_putI (n := 61) hx plX9_120 (sX9_4 (by decide)) (dq tX9_rule 32 rfl) rfl (by omega) (by omega) (fun M_29 m_30e m_30 => ?_)
      have g_31 : Gd M_29 37 (45 + 1) := Gd.frame g_21 (fun c j hcj => m_30 c j (by omega))
      refine g_aload_n (n := 62) hx 1 (dq tX9_rule 33 rfl) rfl rfl ?_
      refine g_getI (n := 65) hx glX9_120 (sX9_4 (by decide)) (dq tX9_rule 34 rfl) rfl (fun h_32l h_32u => ?_)
      refine g_iconst (n := 66) hx (dq tX9_rule 35 rfl) rfl ?_
      refine g_isub (n := 67) hx (dq tX9_rule 36 rfl) rfl ?_
      have e_33 : M_29 37 1 = M_19 37 1 := (m_30 37 1 (by omega))
      have e_34 : M_29 37 3 = M_19 37 3 := (m_30 37 3 (by omega))
      have e_35 : M_29 7 5 = M_19 7 5 := (m_30 7 5 (by omega))
      have e_36 : M_29 7 1 = M_19 7 1 := (m_30 7 1 (by omega))
      exact g_iret hx hr (dq tX9_rule 37 rfl) ⟨by omega, by omega⟩ ⟨(fun u_ v_ huv_ => (((m_30 u_ v_ huv_.2.2.2.2.2.2.1).trans (m_20 u_ v_ huv_.1)).trans (f_10 u_ v_ ⟨huv_.2.1, huv_.2.2.1, huv_.2.2.2.1, huv_.2.2.2.2.1, huv_.2.2.2.2.2.1, (by have q9 := huv_.2.2.2.2.2.2.2; clear huv_; omega), (by have q9 := huv_.2.2.2.2.2.2.2; clear huv_; omega), (by have q9 := huv_.2.2.2.2.2.2.2; clear huv_; omega), (by have q9 := huv_.2.2.2.2.2.2.2; clear huv_; omega)⟩))), g_31, (fun hr6 => absurd hr6 (by omega)), (fun _ => ⟨by omega, Or.inr ⟨y_23q, y_23e, by omega, by omega⟩⟩)⟩
    · refine g_bipush (n := 42) hx (dq tX9_rule 21 rfl) rfl (by decide) ?_
      refine g_aload_n (n := 43) hx 1 (dq tX9_rule 22 rfl) rfl rfl ?_
      refine g_getR (n := 46) hx glX9_10 (sX9_0 (by decide)) (dq tX9_rule 23 rfl) rfl ?_
      refine g_getI (n := 49) hx glX9_90 (sX7_5 (by decide)) (dq tX9_rule 24 rfl) rfl (fun h_37l h_37u => ?_)
      have e_38 : M_19 7 5 = M_7 7 5 := (m_20 7 5 (by omega))
      refine g_isub (n := 50) hx (dq tX9_rule 25 rfl) rfl ?_
      have e_39 : M_19 37 1 = M_7 37 1 := (m_20 37 1 (by omega))
      have e_40 : M_19 37 3 = M_7 37 3 := (m_20 37 3 (by omega))
      have e_41 : M_19 0 4 = M_7 0 4 := (m_20 0 4 (by omega))
      exact g_iret hx hr (dq tX9_rule 26 rfl) ⟨by omega, by omega⟩ ⟨(fun u_ v_ huv_ => ((m_20 u_ v_ huv_.1).trans (f_10 u_ v_ ⟨huv_.2.1, huv_.2.2.1, huv_.2.2.2.1, huv_.2.2.2.2.1, huv_.2.2.2.2.2.1, (by have q9 := huv_.2.2.2.2.2.2.2; clear huv_; omega), (by have q9 := huv_.2.2.2.2.2.2.2; clear huv_; omega), (by have q9 := huv_.2.2.2.2.2.2.2; clear huv_; omega), (by have q9 := huv_.2.2.2.2.2.2.2; clear huv_; omega)⟩))), g_21, (fun hr6 => absurd hr6 (by omega)), (fun _ => ⟨by omega, Or.inl ⟨_, Rz.no h_13 (by omega), by omega, by omega⟩⟩)⟩
  · refine g_iconst (n := 10) hx (dq tX9_rule 4 rfl) rfl ?_
    exact g_iret hx hr (dq tX9_rule 5 rfl) ⟨by decide, by decide⟩ ⟨(fun _ _ _ => rfl), gd0, (fun _ => ⟨by omega, rfl, rfl, fun _ => rfl⟩), (fun hr6 => absurd hr6 (by omega))⟩
