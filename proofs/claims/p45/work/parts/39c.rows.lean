abbrev qctX10_floods (M : zM) (n : Int) (M' : zM) : Prop := (∀ u_ v_, (u_ ≠ 229 + 1 ∨ v_ ≠ 8) ∧ u_ ≠ 229 + 3 ∧ u_ ≠ 229 + 48 ∧ u_ ≠ 229 + 17 → M' u_ v_ = M u_ v_) ∧ Gm M' ∧ Rl M' ∧ (On M')
set_option maxHeartbeats 4000000 in
set_option maxRecDepth 100000 in
theorem ctX10_floods (Γ : Gam) (M : zM) (n : Int) (hnl : (-2147483648) ≤ n) (hnu : n ≤ 2147483647) (gm : Gm M) (rl : Rl M) : CtV Γ yX10_floods cX10_floods 3 none 8 189 [aR Γ 229, vI n] M (qctX10_floods M n) := by
  refine met_v (by decide) (Nat.le_of_ble_eq_true rfl) (fun x hx hr => ?_)
  show G Γ x 3 (QV Γ x (qctX10_floods M n)) M 0 [(0, aR Γ 229), (1, vI n)] []
  refine g_aload_n (n := 1) hx 0 (dq tX10_floods 0 rfl) rfl rfl ?_
  refine g_getR (n := 4) hx glX10_9 (sX10_1 (by decide)) (dq tX10_floods 1 rfl) rfl ?_
  refine g_bipush (n := 6) hx (dq tX10_floods 2 rfl) rfl (by decide) ?_
  refine g_aload_n (n := 7) hx 0 (dq tX10_floods 3 rfl) rfl rfl ?_
  refine g_getR (n := 10) hx glX10_9 (sX10_1 (by decide)) (dq tX10_floods 4 rfl) rfl ?_
  refine g_bipush (n := 12) hx (dq tX10_floods 5 rfl) rfl (by decide) ?_
  refine g_ialdX (n := 13) (q := 8) hx (aX10_1 (b := 229) (by decide)) (dq tX10_floods 6 rfl) rfl (by decide) (by decide) (by decide) rfl (fun h_1l h_1u => ?_)
  have h_1l : (-2147483648) ≤ M (229 + 1) 8 := h_1l
  have h_1u : M (229 + 1) 8 ≤ 2147483647 := h_1u
  refine g_iload_n (n := 14) hx 1 (dq tX10_floods 7 rfl) rfl rfl ?_
  refine g_iadd (n := 15) hx (dq tX10_floods 8 rfl) rfl ?_
  refine g_sipush (n := 18) hx (dq tX10_floods 9 rfl) rfl (by decide) ?_
  refine g_any2 (fun z_2 h_3 => ?_)
  have J_6 : ∀ (j_5 : Int),  ((-2147483648) ≤ j_5) → (j_5 ≤ 2147483647) → G Γ x 3 (QV Γ x (qctX10_floods M n)) M 36 [(0, aR Γ 229), (1, vI n)] [vI j_5, vI 8, aR Γ (229 + 1)] := by
    intro j_5 h_7 h_8
    refine g_iastX (n := 37) (q := 8) hx (aX10_1 (b := 229) (by decide)) (dq tX10_floods 19 rfl) rfl (by decide) (by decide) (by decide) rfl (show (-2147483648) ≤ j_5 by omega) (show j_5 ≤ 2147483647 by omega) (fun M_9 m_10e m_10 => ?_)
    have g_11 : Gm M_9 := Gm.frame gm (fun c j hcj => m_10 c j (by omega))
    have g_12 : Rl M_9 := Rl.frame rl (fun c j hcj => m_10 c j (by omega))
    refine g_iconst (n := 38) hx (dq tX10_floods 20 rfl) rfl ?_
    refine g_istore_n (n := 39) (lv' := [(2, vI 0), (0, aR Γ 229), (1, vI n)]) hx (dq tX10_floods 21 rfl) (by decide) rfl rfl ?_
    have L_15 : ∀ (n_ : Nat) (i_13 : Int) (M_14 : zM), (0 ≤ i_13) → (i_13 ≤ 9) → (∀ u_ v_, u_ ≠ 229 + 3 → M_14 u_ v_ = M_9 u_ v_) → (Gm M_14) → (Rl M_14) → ((9 - i_13).toNat = n_) → G Γ x 3 (QV Γ x (qctX10_floods M n)) M_14 39 [(2, vI i_13), (0, aR Γ 229), (1, vI n)] [] := by
      intro n_
      induction n_ using Nat.strongRecOn with
      | _ n_ ih_16 =>
        intro i_13 M_14 h_21 h_22 f_17 g_18 g_19 hm_20
        refine g_iload_n (n := 40) hx 0 (dq tX10_floods 22 rfl) rfl rfl ?_
        refine g_bipush (n := 42) hx (dq tX10_floods 23 rfl) rfl (by decide) ?_
        refine g_icmp_ge (n := 45) (t := 58) hx (dq tX10_floods 24 rfl) (by decide) rfl ⟨by omega, by omega⟩ ⟨by decide, by decide⟩ (fun c_23 => ?_) (fun c_23 => ?_)
        · refine g_aload_n (n := 59) hx 1 (dq tX10_floods 32 rfl) rfl rfl ?_
          have e_24 : M_14 (229 + 1) 1 = M (229 + 1) 1 := ((f_17 (229 + 1) 1 (by omega))).trans (m_10 (229 + 1) 1 (by omega))
          have e_25 : M_14 (229 + 1) 3 = M (229 + 1) 3 := ((f_17 (229 + 1) 3 (by omega))).trans (m_10 (229 + 1) 3 (by omega))
          refine g_callVv (n := 62) (As := []) (rest := []) hx (ctX10_elects Γ M_14 g_18 g_19) mlX10_509 (obX10 (by decide)) (dq tX10_floods 33 rfl) rfl (Nat.le_of_ble_eq_true rfl) (Nat.le_of_ble_eq_true rfl) (Nat.le_of_ble_eq_true rfl) rfl (fun M_27 p_29 => ?_)
          obtain ⟨f_30, g_31, g_32, h_33⟩ := p_29
          have e_34 : M_27 (229 + 1) 1 = M_14 (229 + 1) 1 := (f_30 (229 + 1) 1 (by omega))
          have e_35 : M_27 (229 + 1) 3 = M_14 (229 + 1) 3 := (f_30 (229 + 1) 3 (by omega))
          exact g_vret hx hr (dq tX10_floods 34 rfl) ⟨(fun u_ v_ huv_ => (((f_30 u_ v_ (by omega)).trans (f_17 u_ v_ (by omega))).trans (m_10 u_ v_ (by omega)))), g_31, g_32, h_33⟩
        · refine g_aload_n (n := 46) hx 1 (dq tX10_floods 25 rfl) rfl rfl ?_
          refine g_getR (n := 49) hx glX10_16 (sX10_3 (by decide)) (dq tX10_floods 26 rfl) rfl ?_
          refine g_iload_n (n := 50) hx 0 (dq tX10_floods 27 rfl) rfl rfl ?_
          refine g_iconst (n := 51) hx (dq tX10_floods 28 rfl) rfl ?_
          have e_36 : M_14 (229 + 1) 1 = M (229 + 1) 1 := ((f_17 (229 + 1) 1 (by omega))).trans (m_10 (229 + 1) 1 (by omega))
          have e_37 : M_14 (229 + 1) 3 = M (229 + 1) 3 := ((f_17 (229 + 1) 3 (by omega))).trans (m_10 (229 + 1) 3 (by omega))
          refine g_iast (n := 52) (q := i_13.toNat) hx (aX10_3 (b := 229) (by decide)) (dq tX10_floods 29 rfl) rfl (by omega) (by omega) (by omega) rfl (by omega) (by omega) (fun M_38 m_39e m_39 => ?_)
          have g_40 : Gm M_38 := Gm.frame g_18 (fun c j hcj => m_39 c j (by omega))
          have g_41 : Rl M_38 := Rl.frame g_19 (fun c j hcj => m_39 c j (by omega))
          refine g_iinc (n := 55) (lv' := [(2, vI (i_13 + 1)), (0, aR Γ 229), (1, vI n)]) hx 0 (dq tX10_floods 30 rfl) rfl (by decide) rfl rfl ?_
          refine g_goto (n := 39) hx (dq tX10_floods 31 rfl) (by decide) ?_
          have e_42 : M_38 (229 + 1) 1 = M_14 (229 + 1) 1 := (m_39 (229 + 1) 1 (by omega))
          have e_43 : M_38 (229 + 1) 3 = M_14 (229 + 1) 3 := (m_39 (229 + 1) 3 (by omega))
          exact ih_16 _ (by omega) (i_13 + 1) M_38 (by omega) (by omega) (fun u_ v_ huv_ => ((m_39 u_ v_ (by omega)).trans (f_17 u_ v_ (by omega)))) g_40 g_41 rfl
    have e_44 : M_9 (229 + 1) 1 = M (229 + 1) 1 := (m_10 (229 + 1) 1 (by omega))
    have e_45 : M_9 (229 + 1) 3 = M (229 + 1) 3 := (m_10 (229 + 1) 3 (by omega))
    exact L_15 _ 0 M_9 (by omega) (by omega) (fun _ _ _ => rfl) g_11 g_12 rfl
  refine g_icmp_ge (n := 21) (t := 33) hx (dq tX10_floods 10 rfl) (by decide) rfl h_3 ⟨by decide, by decide⟩ (fun c_4 => ?_) (fun c_4 => ?_)
  · refine g_sipush (n := 36) hx (dq tX10_floods 18 rfl) rfl (by decide) ?_
    exact J_6 999 (by omega) (by omega)
  · refine g_aload_n (n := 22) hx 0 (dq tX10_floods 11 rfl) rfl rfl ?_
    refine g_getR (n := 25) hx glX10_9 (sX10_1 (by decide)) (dq tX10_floods 12 rfl) rfl ?_
    refine g_bipush (n := 27) hx (dq tX10_floods 13 rfl) rfl (by decide) ?_
    refine g_ialdX (n := 28) (q := 8) hx (aX10_1 (b := 229) (by decide)) (dq tX10_floods 14 rfl) rfl (by decide) (by decide) (by decide) rfl (fun h_46l h_46u => ?_)
    have h_46l : (-2147483648) ≤ M (229 + 1) 8 := h_46l
    have h_46u : M (229 + 1) 8 ≤ 2147483647 := h_46u
    refine g_iload_n (n := 29) hx 1 (dq tX10_floods 15 rfl) rfl rfl ?_
    refine g_iadd (n := 30) hx (dq tX10_floods 16 rfl) rfl ?_
    refine g_goto (n := 36) hx (dq tX10_floods 17 rfl) (by decide) ?_
    refine g_any (fun z_47 h_48 => ?_)
    exact J_6 z_47 (by omega) (by omega)

abbrev qctX10_elected (M : zM) (at_ : Int) (z : Int) (M' : zM) : Prop := (∀ u_ v_, (u_ ≠ 229 ∨ v_ < 61 ∨ 80 ≤ v_) ∧ (u_ < 229 + 1 ∨ 229 + 29 ≤ u_) ∧ (u_ < 229 + 46 ∨ 229 + 57 ≤ u_) → M' u_ v_ = M u_ v_) ∧ Gm M' ∧ Rl M' ∧ On M' ∧ (Sm M M') ∧ (∀ j : Nat, j < 3600 → M' (229 + 56) j = M (229 + 56) j)
set_option maxHeartbeats 4000000 in
set_option maxRecDepth 100000 in
theorem ctX10_elected (Γ : Gam) (M : zM) (at_ : Int) (hat_l : (-2147483648) ≤ at_) (hat_u : at_ ≤ 2147483647) (pre0 : M (229 + 1) 7 ≤ 9999) (gm : Gm M) (rl : Rl M) (on : On M) : CtI Γ yX10_elected cX10_elected 3 (some .int) 9 211 [aR Γ 229, vI at_] M (qctX10_elected M at_) := by
  refine met_i (by decide) (Nat.le_of_ble_eq_true rfl) (fun x hx hr => ?_)
  show G Γ x 3 (QI Γ x (qctX10_elected M at_)) M 0 [(0, aR Γ 229), (1, vI at_)] []
  refine g_aload_n (n := 1) hx 0 (dq tX10_elected 0 rfl) rfl rfl ?_
  refine g_iload_n (n := 2) hx 1 (dq tX10_elected 1 rfl) rfl rfl ?_
  refine g_callVi (n := 5) (As := [vI at_]) (rest := []) hx (ctX10_isLog Γ M at_ (by omega) (by omega)) mlX10_483 (obX10 (by decide)) (dq tX10_elected 2 rfl) rfl (Nat.le_of_ble_eq_true rfl) (Nat.le_of_ble_eq_true rfl) (Nat.le_of_ble_eq_true rfl) rfl (fun z_1 M_2 h_3 p_4 => ?_)
  obtain ⟨rfl, b_6⟩ := p_4
  refine g_if_ne (n := 8) (t := 10) hx (dq tX10_elected 3 rfl) (by decide) rfl h_3 (fun c_10 => ?_) (fun c_10 => ?_)
  · have b_6 := b_6.resolve_left c_10
    obtain ⟨-, h_7, h_8, h_9⟩ := b_6
    refine g_aload_n (n := 11) hx 0 (dq tX10_elected 6 rfl) rfl rfl ?_
    refine g_callVv (n := 14) (As := []) (rest := []) hx (ctX10_keeps Γ M (by omega) gm rl on) mlX10_517 (obX10 (by decide)) (dq tX10_elected 7 rfl) rfl (Nat.le_of_ble_eq_true rfl) (Nat.le_of_ble_eq_true rfl) (Nat.le_of_ble_eq_true rfl) rfl (fun M_12 p_14 => ?_)
    obtain ⟨f_15, g_16, g_17, g_18, h_19, h_20, h_21⟩ := p_14
    refine g_aload_n (n := 15) hx 0 (dq tX10_elected 8 rfl) rfl rfl ?_
    refine g_iconst (n := 16) hx (dq tX10_elected 9 rfl) rfl ?_
    have e_22 : M_12 (229 + 1) 1 = M (229 + 1) 1 := (f_15 (229 + 1) 1 (by omega))
    have e_23 : M_12 (229 + 1) 3 = M (229 + 1) 3 := (f_15 (229 + 1) 3 (by omega))
    refine g_callVv (n := 19) (As := [vI 0]) (rest := []) hx (ctX10_floods Γ M_12 0 (by decide) (by decide) g_16 g_17) mlX10_514 (obX10 (by decide)) (dq tX10_elected 10 rfl) rfl (Nat.le_of_ble_eq_true rfl) (Nat.le_of_ble_eq_true rfl) (Nat.le_of_ble_eq_true rfl) rfl (fun M_25 p_27 => ?_)
    obtain ⟨f_28, g_29, g_30, h_31⟩ := p_27
    have g_32 : BlOk M_25 4 := BlOk.frame h_19 (fun c j hcj => f_28 c j (by omega))
    refine g_aload_n (n := 20) hx 0 (dq tX10_elected 11 rfl) rfl rfl ?_
    refine g_getR (n := 23) hx glX10_58 (sX10_17 (by decide)) (dq tX10_elected 12 rfl) rfl ?_
    refine g_iload_n (n := 24) hx 1 (dq tX10_elected 13 rfl) rfl rfl ?_
    refine g_iald (n := 25) (q := at_.toNat) hx (aX10_17 (b := 229) (by decide)) (dq tX10_elected 14 rfl) rfl (by omega) (by omega) (by omega) rfl (fun h_33l h_33u => ?_)
    refine g_istore_n (n := 26) (lv' := [(2, vI (M_25 (229 + 17) at_.toNat)), (0, aR Γ 229), (1, vI at_)]) hx (dq tX10_elected 15 rfl) (by decide) rfl rfl ?_
    refine g_aload_n (n := 27) hx 1 (dq tX10_elected 16 rfl) rfl rfl ?_
    have e_34 : M_25 (229 + 1) 1 = M_12 (229 + 1) 1 := (f_28 (229 + 1) 1 (by omega))
    have e_35 : M_25 (229 + 1) 3 = M_12 (229 + 1) 3 := (f_28 (229 + 1) 3 (by omega))
    refine g_callVv (n := 30) (As := []) (rest := []) hx (ctX10_laysBack Γ M_25 g_30 g_32) mlX10_520 (obX10 (by decide)) (dq tX10_elected 17 rfl) rfl (Nat.le_of_ble_eq_true rfl) (Nat.le_of_ble_eq_true rfl) (Nat.le_of_ble_eq_true rfl) rfl (fun M_37 p_39 => ?_)
    obtain ⟨f_40, g_41, g_42, h_43, h_44, h_45, h_46⟩ := p_39
    refine g_iload_n (n := 31) hx 0 (dq tX10_elected 18 rfl) rfl rfl ?_
    exact g_iret hx hr (dq tX10_elected 19 rfl) (zrI h_33l h_33u (by decide) (by decide)) ⟨(fun u_ v_ huv_ => (((f_40 u_ v_ (by omega)).trans (f_28 u_ v_ (by omega))).trans (f_15 u_ v_ (by omega)))), h_44, g_41, h_45, (fun c j h1 h2 h3 => (h_43 c j h1 h2 h3).trans (((f_28 (229 + 56) (900 * 4 + zof c + j) (by omega))).trans (h_20 c j h1 h2 h3))), (fun j hj => (((f_40 (229 + 56) j (by omega)).trans (f_28 (229 + 56) j (by omega)))).trans ((h_21 j hj).trans (rfl)))⟩
  · clear b_6
    refine g_iconst (n := 9) hx (dq tX10_elected 4 rfl) rfl ?_
    exact g_iret hx hr (dq tX10_elected 5 rfl) ⟨by decide, by decide⟩ ⟨(fun _ _ _ => rfl), gm, rl, on, (fun _ _ _ _ _ => rfl), (fun _ _ => rfl)⟩

abbrev qctX10_ahead (M : zM) (l : Int) (at_ : Int) (z : Int) (M' : zM) : Prop := (∀ u_ v_, u_ ≠ 229 + 17 → M' u_ v_ = M u_ v_) ∧ Gm M' ∧ Rl M' ∧ On M'
set_option maxHeartbeats 4000000 in
set_option maxRecDepth 100000 in
theorem ctX10_ahead (Γ : Gam) (M : zM) (l : Int) (hll : (-2147483648) ≤ l) (hlu : l ≤ 2147483647) (at_ : Int) (hat_l : (-2147483648) ≤ at_) (hat_u : at_ ≤ 2147483647) (gm : Gm M) (rl : Rl M) (on : On M) : CtI Γ yX10_ahead cX10_ahead 5 (some .int) 2 46 [aR Γ 229, vI l, vI at_] M (qctX10_ahead M l at_) := by
  refine met_i (by decide) (Nat.le_of_ble_eq_true rfl) (fun x hx hr => ?_)
  show G Γ x 5 (QI Γ x (qctX10_ahead M l at_)) M 0 [(0, aR Γ 229), (1, vI l), (2, vI at_)] []
  refine g_aload_n (n := 1) hx 0 (dq tX10_ahead 0 rfl) rfl rfl ?_
  refine g_iload_n (n := 2) hx 1 (dq tX10_ahead 1 rfl) rfl rfl ?_
  refine g_callVi (n := 5) (As := [vI l]) (rest := []) hx (ctX10_isLog Γ M l (by omega) (by omega)) mlX10_483 (obX10 (by decide)) (dq tX10_ahead 2 rfl) rfl (Nat.le_of_ble_eq_true rfl) (Nat.le_of_ble_eq_true rfl) (Nat.le_of_ble_eq_true rfl) rfl (fun z_1 M_2 h_3 p_4 => ?_)
  obtain ⟨rfl, b_6⟩ := p_4
  refine g_if_eq (n := 8) (t := 16) hx (dq tX10_ahead 3 rfl) (by decide) rfl h_3 (fun c_10 => ?_) (fun c_10 => ?_)
  · clear b_6
    refine g_bipush (n := 18) hx (dq tX10_ahead 8 rfl) rfl (by decide) ?_
    exact g_iret hx hr (dq tX10_ahead 9 rfl) ⟨by decide, by decide⟩ ⟨(fun _ _ _ => rfl), gm, rl, on⟩
  · have b_6 := b_6.resolve_left c_10
    obtain ⟨-, h_7, h_8, h_9⟩ := b_6
    refine g_aload_n (n := 9) hx 0 (dq tX10_ahead 4 rfl) rfl rfl ?_
    refine g_iload_n (n := 10) hx 2 (dq tX10_ahead 5 rfl) rfl rfl ?_
    refine g_callVi (n := 13) (As := [vI at_]) (rest := []) hx (ctX10_isLog Γ M at_ (by omega) (by omega)) mlX10_483 (obX10 (by decide)) (dq tX10_ahead 6 rfl) rfl (Nat.le_of_ble_eq_true rfl) (Nat.le_of_ble_eq_true rfl) (Nat.le_of_ble_eq_true rfl) rfl (fun z_11 M_12 h_13 p_14 => ?_)
    obtain ⟨rfl, b_16⟩ := p_14
    refine g_if_ne (n := 16) (t := 19) hx (dq tX10_ahead 7 rfl) (by decide) rfl h_13 (fun c_20 => ?_) (fun c_20 => ?_)
    · have b_16 := b_16.resolve_left c_20
      obtain ⟨-, h_17, h_18, h_19⟩ := b_16
      refine g_aload_n (n := 20) hx 0 (dq tX10_ahead 10 rfl) rfl rfl ?_
      refine g_iload_n (n := 21) hx 1 (dq tX10_ahead 11 rfl) rfl rfl ?_
      refine g_callVi (n := 24) (As := [vI l]) (rest := []) hx (ctX10_placeInOrder Γ M l (by omega) (by omega) (by omega) on) mlX10_489 (obX10 (by decide)) (dq tX10_ahead 12 rfl) rfl (Nat.le_of_ble_eq_true rfl) (Nat.le_of_ble_eq_true rfl) (Nat.le_of_ble_eq_true rfl) rfl (fun z_21 M_22 h_23 p_24 => ?_)
      obtain ⟨rfl, h_26, h_27, h_28, h_29⟩ := p_24
      refine g_istore_n (n := 25) (lv' := [(3, vI z_21), (0, aR Γ 229), (1, vI l), (2, vI at_)]) hx (dq tX10_ahead 13 rfl) (by decide) rfl rfl ?_
      refine g_iload_n (n := 26) hx 0 (dq tX10_ahead 14 rfl) rfl rfl ?_
      refine g_istore (n := 28) (lv' := [(4, vI z_21), (3, vI z_21), (0, aR Γ 229), (1, vI l), (2, vI at_)]) hx (dq tX10_ahead 15 rfl) (by decide) rfl rfl ?_
      have L_32 : ∀ (n_ : Nat) (i_30 : Int) (M_31 : zM), (0 ≤ i_30) → (i_30 ≤ 11) → (∀ u_ v_, u_ ≠ 229 + 17 → M_31 u_ v_ = M u_ v_) → (Gm M_31) → (Rl M_31) → (Hl M_31 l i_30) → (z_21 ≤ i_30) → ((i_30 ≤ at_ ∨ i_30 = z_21)) → (i_30 < M_31 (229 + 1) 3) → ((11 - i_30).toNat = n_) → G Γ x 5 (QI Γ x (qctX10_ahead M l at_)) M_31 28 [(4, vI i_30), (3, vI z_21), (0, aR Γ 229), (1, vI l), (2, vI at_)] [] := by
        intro n_
        induction n_ using Nat.strongRecOn with
        | _ n_ ih_33 =>
          intro i_30 M_31 h_42 h_43 f_34 g_35 g_36 h_38 h_39 h_40 h_41 hm_37
          refine g_iload (n := 30) hx 0 (dq tX10_ahead 16 rfl) rfl rfl ?_
          refine g_iload_n (n := 31) hx 4 (dq tX10_ahead 17 rfl) rfl rfl ?_
          refine g_icmp_ge (n := 34) (t := 56) hx (dq tX10_ahead 18 rfl) (by decide) rfl ⟨by omega, by omega⟩ (zrI hat_l hat_u (by decide) (by decide)) (fun c_44 => ?_) (fun c_44 => ?_)
          · refine g_iload_n (n := 57) hx 1 (dq tX10_ahead 31 rfl) rfl rfl ?_
            refine g_istore (n := 59) (lv' := [(4, vI z_21), (3, vI z_21), (0, aR Γ 229), (1, vI l), (2, vI at_)]) hx (dq tX10_ahead 32 rfl) (by decide) rfl rfl ?_
            have L_47 : ∀ (n_ : Nat) (i_45 : Int) (M_46 : zM), (0 ≤ i_45) → (i_45 ≤ 11) → (∀ u_ v_, u_ ≠ 229 + 17 → M_46 u_ v_ = M_31 u_ v_) → (Gm M_46) → (Rl M_46) → (Hx M_46 l z_21 at_ i_45) → (i_45 ≤ z_21) → ((at_ ≤ i_45 ∨ i_45 = z_21)) → (i_45 < M_46 (229 + 1) 3) → ((i_45 - 0).toNat = n_) → G Γ x 5 (QI Γ x (qctX10_ahead M l at_)) M_46 59 [(4, vI i_45), (3, vI z_21), (0, aR Γ 229), (1, vI l), (2, vI at_)] [] := by
              intro n_
              induction n_ using Nat.strongRecOn with
              | _ n_ ih_48 =>
                intro i_45 M_46 h_57 h_58 f_49 g_50 g_51 h_53 h_54 h_55 h_56 hm_52
                refine g_iload (n := 61) hx 0 (dq tX10_ahead 33 rfl) rfl rfl ?_
                refine g_iload_n (n := 62) hx 4 (dq tX10_ahead 34 rfl) rfl rfl ?_
                refine g_icmp_le (n := 65) (t := 87) hx (dq tX10_ahead 35 rfl) (by decide) rfl ⟨by omega, by omega⟩ (zrI hat_l hat_u (by decide) (by decide)) (fun c_59 => ?_) (fun c_59 => ?_)
                · refine g_aload_n (n := 88) hx 2 (dq tX10_ahead 48 rfl) rfl rfl ?_
                  refine g_getR (n := 91) hx glX10_58 (sX10_17 (by decide)) (dq tX10_ahead 49 rfl) rfl ?_
                  refine g_iload_n (n := 92) hx 4 (dq tX10_ahead 50 rfl) rfl rfl ?_
                  refine g_iload_n (n := 93) hx 3 (dq tX10_ahead 51 rfl) rfl rfl ?_
                  have e_60 : M_46 (229 + 1) 1 = M (229 + 1) 1 := ((f_49 (229 + 1) 1 (by omega))).trans (f_34 (229 + 1) 1 (by omega))
                  have e_61 : M_46 (229 + 1) 3 = M (229 + 1) 3 := ((f_49 (229 + 1) 3 (by omega))).trans (f_34 (229 + 1) 3 (by omega))
                  refine g_iast (n := 94) (q := at_.toNat) hx (aX10_17 (b := 229) (by decide)) (dq tX10_ahead 52 rfl) rfl (by omega) (by omega) (by omega) rfl (by omega) (by omega) (fun M_62 m_63e m_63 => ?_)
                  have g_64 := Gm.order g_50 m_63e m_63 (by omega)
                  have g_65 : Rl M_62 := Rl.frame g_51 (fun c j hcj => m_63 c j (by omega))
                  have g_66 : On M_62 := Hl.fin (Hx.fin h_53 (by omega) (by omega) (by omega)) (by omega) (by omega) m_63e m_63
                  refine g_iload_n (n := 95) hx 1 (dq tX10_ahead 53 rfl) rfl rfl ?_
                  have e_67 : M_62 (229 + 1) 1 = M_46 (229 + 1) 1 := (m_63 (229 + 1) 1 (by omega))
                  have e_68 : M_62 (229 + 1) 3 = M_46 (229 + 1) 3 := (m_63 (229 + 1) 3 (by omega))
                  exact g_iret hx hr (dq tX10_ahead 54 rfl) h_23 ⟨(fun u_ v_ huv_ => (((m_63 u_ v_ (by omega)).trans (f_49 u_ v_ (by omega))).trans (f_34 u_ v_ (by omega)))), g_64, g_65, g_66⟩
                · refine g_aload_n (n := 66) hx 2 (dq tX10_ahead 36 rfl) rfl rfl ?_
                  refine g_getR (n := 69) hx glX10_58 (sX10_17 (by decide)) (dq tX10_ahead 37 rfl) rfl ?_
                  refine g_iload (n := 71) hx 0 (dq tX10_ahead 38 rfl) rfl rfl ?_
                  refine g_aload_n (n := 72) hx 2 (dq tX10_ahead 39 rfl) rfl rfl ?_
                  refine g_getR (n := 75) hx glX10_58 (sX10_17 (by decide)) (dq tX10_ahead 40 rfl) rfl ?_
                  refine g_iload (n := 77) hx 0 (dq tX10_ahead 41 rfl) rfl rfl ?_
                  refine g_iconst (n := 78) hx (dq tX10_ahead 42 rfl) rfl ?_
                  refine g_isub (n := 79) hx (dq tX10_ahead 43 rfl) rfl ?_
                  refine g_iald (n := 80) (q := (i_45 - 1).toNat) hx (aX10_17 (b := 229) (by decide)) (dq tX10_ahead 44 rfl) rfl (by omega) (by omega) (by omega) rfl (fun h_69l h_69u => ?_)
                  have e_70 : M_46 (229 + 1) 1 = M (229 + 1) 1 := ((f_49 (229 + 1) 1 (by omega))).trans (f_34 (229 + 1) 1 (by omega))
                  have e_71 : M_46 (229 + 1) 3 = M (229 + 1) 3 := ((f_49 (229 + 1) 3 (by omega))).trans (f_34 (229 + 1) 3 (by omega))
                  refine g_iv (fun h_73 => ?_)
                  have h_73v : (0 : Int) ≤ M_46 (229 + 1) 1 ∧ M_46 (229 + 1) 1 ≤ 6 := h_73 230 1
                  have h_73l : (0 : Int) ≤ M_46 (229 + 1) 3 ∧ M_46 (229 + 1) 3 ≤ 12 := h_73 230 3
                  clear h_73
                  have h_72 := g_50.2.2.2.2.1 ((i_45 - 1).toNat) (by omega)
                  refine g_iast (n := 81) (q := i_45.toNat) hx (aX10_17 (b := 229) (by decide)) (dq tX10_ahead 45 rfl) rfl (by omega) (by omega) (by omega) rfl (by omega) (by omega) (fun M_74 m_75e m_75 => ?_)
                  have g_76 := Gm.order g_50 m_75e m_75 (by omega)
                  have g_77 : Rl M_74 := Rl.frame g_51 (fun c j hcj => m_75 c j (by omega))
                  refine g_iinc (n := 84) (lv' := [(4, vI (i_45 + (-1))), (3, vI z_21), (0, aR Γ 229), (1, vI l), (2, vI at_)]) hx 0 (dq tX10_ahead 46 rfl) rfl (by decide) rfl rfl ?_
                  refine g_goto (n := 59) hx (dq tX10_ahead 47 rfl) (by decide) ?_
                  have e_78 : M_74 (229 + 1) 1 = M_46 (229 + 1) 1 := (m_75 (229 + 1) 1 (by omega))
                  have e_79 : M_74 (229 + 1) 3 = M_46 (229 + 1) 3 := (m_75 (229 + 1) 3 (by omega))
                  exact ih_48 _ (by omega) (i_45 + (-1)) M_74 (by omega) (by omega) (fun u_ v_ huv_ => ((m_75 u_ v_ (by omega)).trans (f_49 u_ v_ (by omega)))) g_76 g_77 (Hx.go h_53 (by omega) (by omega) (by omega) (by omega) (by omega) m_75e m_75) (by omega) (by omega) (by omega) rfl
            have e_80 : M_31 (229 + 1) 1 = M (229 + 1) 1 := (f_34 (229 + 1) 1 (by omega))
            have e_81 : M_31 (229 + 1) 3 = M (229 + 1) 3 := (f_34 (229 + 1) 3 (by omega))
            exact L_47 _ z_21 M_31 (by omega) (by omega) (fun _ _ _ => rfl) g_35 g_36 (Hx.of h_38 (by omega) (by omega) (by omega)) (by omega) (by omega) (by omega) rfl
          · refine g_aload_n (n := 35) hx 2 (dq tX10_ahead 19 rfl) rfl rfl ?_
            refine g_getR (n := 38) hx glX10_58 (sX10_17 (by decide)) (dq tX10_ahead 20 rfl) rfl ?_
            refine g_iload (n := 40) hx 0 (dq tX10_ahead 21 rfl) rfl rfl ?_
            refine g_aload_n (n := 41) hx 2 (dq tX10_ahead 22 rfl) rfl rfl ?_
            refine g_getR (n := 44) hx glX10_58 (sX10_17 (by decide)) (dq tX10_ahead 23 rfl) rfl ?_
            refine g_iload (n := 46) hx 0 (dq tX10_ahead 24 rfl) rfl rfl ?_
            refine g_iconst (n := 47) hx (dq tX10_ahead 25 rfl) rfl ?_
            refine g_iadd (n := 48) hx (dq tX10_ahead 26 rfl) rfl ?_
            refine g_iald (n := 49) (q := (i_30 + 1).toNat) hx (aX10_17 (b := 229) (by decide)) (dq tX10_ahead 27 rfl) rfl (by omega) (by omega) (by omega) rfl (fun h_82l h_82u => ?_)
            have e_83 : M_31 (229 + 1) 1 = M (229 + 1) 1 := (f_34 (229 + 1) 1 (by omega))
            have e_84 : M_31 (229 + 1) 3 = M (229 + 1) 3 := (f_34 (229 + 1) 3 (by omega))
            refine g_iv (fun h_86 => ?_)
            have h_86v : (0 : Int) ≤ M_31 (229 + 1) 1 ∧ M_31 (229 + 1) 1 ≤ 6 := h_86 230 1
            have h_86l : (0 : Int) ≤ M_31 (229 + 1) 3 ∧ M_31 (229 + 1) 3 ≤ 12 := h_86 230 3
            clear h_86
            have h_85 := g_35.2.2.2.2.1 ((i_30 + 1).toNat) (by omega)
            refine g_iast (n := 50) (q := i_30.toNat) hx (aX10_17 (b := 229) (by decide)) (dq tX10_ahead 28 rfl) rfl (by omega) (by omega) (by omega) rfl (by omega) (by omega) (fun M_87 m_88e m_88 => ?_)
            have g_89 := Gm.order g_35 m_88e m_88 (by omega)
            have g_90 : Rl M_87 := Rl.frame g_36 (fun c j hcj => m_88 c j (by omega))
            refine g_iinc (n := 53) (lv' := [(4, vI (i_30 + 1)), (3, vI z_21), (0, aR Γ 229), (1, vI l), (2, vI at_)]) hx 0 (dq tX10_ahead 29 rfl) rfl (by decide) rfl rfl ?_
            refine g_goto (n := 28) hx (dq tX10_ahead 30 rfl) (by decide) ?_
            have e_91 : M_87 (229 + 1) 1 = M_31 (229 + 1) 1 := (m_88 (229 + 1) 1 (by omega))
            have e_92 : M_87 (229 + 1) 3 = M_31 (229 + 1) 3 := (m_88 (229 + 1) 3 (by omega))
            exact ih_33 _ (by omega) (i_30 + 1) M_87 (by omega) (by omega) (fun u_ v_ huv_ => ((m_88 u_ v_ (by omega)).trans (f_34 u_ v_ (by omega)))) g_89 g_90 (Hl.go h_38 (by omega) (by omega) (by omega) (by omega) m_88e m_88) (by omega) (by omega) (by omega) rfl
      exact L_32 _ z_21 M (by omega) (by omega) (fun _ _ _ => rfl) gm rl (Hl.of on (by omega) (by omega)) (by omega) (by omega) (by omega) rfl
    · clear b_16
      refine g_bipush (n := 18) hx (dq tX10_ahead 8 rfl) rfl (by decide) ?_
      exact g_iret hx hr (dq tX10_ahead 9 rfl) ⟨by decide, by decide⟩ ⟨(fun _ _ _ => rfl), gm, rl, on⟩
