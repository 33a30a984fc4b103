abbrev qctX10_put (M : zM) (v : Int) (M' : zM) : Prop := (∀ u_ v_, u_ ≠ 229 + 37 ∧ (u_ ≠ 229 ∨ v_ ≠ 37) → M' u_ v_ = M u_ v_) ∧ (M' 229 37 = M 229 37 + 4)
set_option maxHeartbeats 4000000 in
set_option maxRecDepth 100000 in
theorem ctX10_put (Γ : Gam) (M : zM) (v : Int) (hvl : (-2147483648) ≤ v) (hvu : v ≤ 2147483647) (pre0 : M 229 37 + 4 ≤ 400) : CtV Γ yX10_put cX10_put 3 none 0 0 [aR Γ 229, vI v] M (qctX10_put M v) := by
  refine met_v (by decide) (Nat.le_of_ble_eq_true rfl) (fun x hx hr => ?_)
  show G Γ x 3 (QV Γ x (qctX10_put M v)) M 0 [(0, aR Γ 229), (1, vI v)] []
  refine g_bipush (n := 2) hx (dq tX10_put 0 rfl) rfl (by decide) ?_
  refine g_istore_n (n := 3) (lv' := [(2, vI 24), (0, aR Γ 229), (1, vI v)]) hx (dq tX10_put 1 rfl) (by decide) rfl rfl ?_
  have L_3 : ∀ (n_ : Nat) (i_1 : Int) (M_2 : zM), ((-8) ≤ i_1) → (i_1 ≤ 24) → (∀ u_ v_, (u_ ≠ 229 ∨ v_ ≠ 37) ∧ u_ ≠ 229 + 37 → M_2 u_ v_ = M u_ v_) → (8 * M_2 229 37 = 8 * M 229 37 + 24 - i_1) → ((i_1 + 8).toNat = n_) → G Γ x 3 (QV Γ x (qctX10_put M v)) M_2 3 [(2, vI i_1), (0, aR Γ 229), (1, vI v)] [] := by
    intro n_
    induction n_ using Nat.strongRecOn with
    | _ n_ ih_4 =>
      intro i_1 M_2 h_8 h_9 f_5 h_7 hm_6
      refine g_iload_n (n := 4) hx 0 (dq tX10_put 2 rfl) rfl rfl ?_
      refine g_if_lt (n := 7) (t := 36) hx (dq tX10_put 3 rfl) (by decide) rfl ⟨by omega, by omega⟩ (fun c_10 => ?_) (fun c_10 => ?_)
      · exact g_vret hx hr (dq tX10_put 21 rfl) ⟨(fun u_ v_ huv_ => (f_5 u_ v_ ⟨huv_.2, huv_.1⟩)), (by omega)⟩
      · refine g_aload_n (n := 8) hx 1 (dq tX10_put 4 rfl) rfl rfl ?_
        refine g_getR (n := 11) hx glX10_122 (sX10_48 (by decide)) (dq tX10_put 5 rfl) rfl ?_
        refine g_aload_n (n := 12) hx 1 (dq tX10_put 6 rfl) rfl rfl ?_
        refine g_getI (n := 15) hx glX10_216 (sX10_37 (by decide)) (dq tX10_put 7 rfl) rfl (fun h_11l h_11u => ?_)
        refine g_iload_n (n := 16) hx 2 (dq tX10_put 8 rfl) rfl rfl ?_
        refine g_iload_n (n := 17) hx 0 (dq tX10_put 9 rfl) rfl rfl ?_
        refine g_ishr (n := 18) hx (dq tX10_put 10 rfl) rfl (fun z_12 h_13 => ?_)
        refine g_i2b (n := 19) hx (dq tX10_put 11 rfl) rfl (fun z_15 h_161 h_162 => ?_)
        refine g_bast (n := 20) (q := (M_2 229 37).toNat) hx (aX10_48 (b := 229) (by decide)) (dq tX10_put 12 rfl) rfl (by omega) (by omega) (by omega) rfl (by omega) (by omega) (show (-128) ≤ z_15 by omega) (show z_15 ≤ 127 by omega) (fun M_17 m_18e m_18 => ?_)
        refine g_aload_n (n := 21) hx 1 (dq tX10_put 13 rfl) rfl rfl ?_
        refine g_dup (n := 22) hx (dq tX10_put 14 rfl) rfl rfl ?_
        refine g_getI (n := 25) hx glX10_216 (sX10_37 (by decide)) (dq tX10_put 15 rfl) rfl (fun h_19l h_19u => ?_)
        have e_20 : M_17 229 37 = M_2 229 37 := (m_18 229 37 (by omega))
        refine g_iconst (n := 26) hx (dq tX10_put 16 rfl) rfl ?_
        refine g_iadd (n := 27) hx (dq tX10_put 17 rfl) rfl ?_
        refine g_putI (n := 30) hx plX10_216 (sX10_37 (by decide)) (dq tX10_put 18 rfl) rfl (by omega) (by omega) (fun M_21 m_22e m_22 => ?_)
        refine g_iinc (n := 33) (lv' := [(2, vI (i_1 + (-8))), (0, aR Γ 229), (1, vI v)]) hx 0 (dq tX10_put 19 rfl) rfl (by decide) rfl rfl ?_
        refine g_goto (n := 3) hx (dq tX10_put 20 rfl) (by decide) ?_
        exact ih_4 _ (by omega) (i_1 + (-8)) M_21 (by omega) (by omega) (fun u_ v_ huv_ => (((m_22 u_ v_ huv_.1).trans (m_18 u_ v_ (by omega))).trans (f_5 u_ v_ ⟨huv_.1, huv_.2⟩))) (by first | assumption | omega) rfl
  exact L_3 _ 24 M (by omega) (by omega) (fun _ _ _ => rfl) (by first | assumption | omega) rfl

abbrev qctX10_feed (M : zM) (p : Int) (q : Int) (t : Int) (w : Int) (v : Int) (z : Int) (M' : zM) : Prop := (∀ u_ v_, u_ ≠ 229 + 37 ∧ (u_ ≠ 229 ∨ v_ ≠ 37) → M' u_ v_ = M u_ v_)
set_option maxHeartbeats 4000000 in
set_option maxRecDepth 100000 in
theorem ctX10_feed (Γ : Gam) (M : zM) (p : Int) (hpl : (-2147483648) ≤ p) (hpu : p ≤ 2147483647) (q : Int) (hql : (-2147483648) ≤ q) (hqu : q ≤ 2147483647) (t : Int) (htl : (-2147483648) ≤ t) (htu : t ≤ 2147483647) (w : Int) (hwl : (-2147483648) ≤ w) (hwu : w ≤ 2147483647) (v : Int) (hvl : (-2147483648) ≤ v) (hvu : v ≤ 2147483647)  : CtI Γ yX10_feed cX10_feed 6 (some .int) 1 22 [aR Γ 229, vI p, vI q, vI t, vI w, vI v] M (qctX10_feed M p q t w v) := by
  refine met_i (by decide) (Nat.le_of_ble_eq_true rfl) (fun x hx hr => ?_)
  show G Γ x 6 (QI Γ x (qctX10_feed M p q t w v)) M 0 [(0, aR Γ 229), (1, vI p), (2, vI q), (3, vI t), (4, vI w), (5, vI v)] []
  refine g_aload_n (n := 1) hx 0 (dq tX10_feed 0 rfl) rfl rfl ?_
  refine g_getI (n := 4) hx glX10_216 (sX10_37 (by decide)) (dq tX10_feed 1 rfl) rfl (fun h_1l h_1u => ?_)
  refine g_bipush (n := 6) hx (dq tX10_feed 2 rfl) rfl (by decide) ?_
  refine g_iadd (n := 7) hx (dq tX10_feed 3 rfl) rfl ?_
  refine g_sipush (n := 10) hx (dq tX10_feed 4 rfl) rfl (by decide) ?_
  refine g_icmp_le (n := 13) (t := 15) hx (dq tX10_feed 5 rfl) (by decide) rfl ⟨by omega, by omega⟩ ⟨by decide, by decide⟩ (fun c_2 => ?_) (fun c_2 => ?_)
  · refine g_aload_n (n := 16) hx 0 (dq tX10_feed 8 rfl) rfl rfl ?_
    refine g_iload_n (n := 17) hx 1 (dq tX10_feed 9 rfl) rfl rfl ?_
    refine g_callVv (n := 20) (As := [vI p]) (rest := []) hx (ctX10_put Γ M p (by omega) (by omega) (by omega)) mlX10_219 (obX10 (by decide)) (dq tX10_feed 10 rfl) rfl (Nat.le_of_ble_eq_true rfl) (Nat.le_of_ble_eq_true rfl) (Nat.le_of_ble_eq_true rfl) rfl (fun M_4 p_6 => ?_)
    obtain ⟨f_7, h_8⟩ := p_6
    refine g_aload_n (n := 21) hx 0 (dq tX10_feed 11 rfl) rfl rfl ?_
    refine g_iload_n (n := 22) hx 2 (dq tX10_feed 12 rfl) rfl rfl ?_
    refine g_callVv (n := 25) (As := [vI q]) (rest := []) hx (ctX10_put Γ M_4 q (by omega) (by omega) (by omega)) mlX10_219 (obX10 (by decide)) (dq tX10_feed 13 rfl) rfl (Nat.le_of_ble_eq_true rfl) (Nat.le_of_ble_eq_true rfl) (Nat.le_of_ble_eq_true rfl) rfl (fun M_10 p_12 => ?_)
    obtain ⟨f_13, h_14⟩ := p_12
    refine g_aload_n (n := 26) hx 0 (dq tX10_feed 14 rfl) rfl rfl ?_
    refine g_iload_n (n := 27) hx 3 (dq tX10_feed 15 rfl) rfl rfl ?_
    refine g_callVv (n := 30) (As := [vI t]) (rest := []) hx (ctX10_put Γ M_10 t (by omega) (by omega) (by omega)) mlX10_219 (obX10 (by decide)) (dq tX10_feed 16 rfl) rfl (Nat.le_of_ble_eq_true rfl) (Nat.le_of_ble_eq_true rfl) (Nat.le_of_ble_eq_true rfl) rfl (fun M_16 p_18 => ?_)
    obtain ⟨f_19, h_20⟩ := p_18
    refine g_aload_n (n := 31) hx 0 (dq tX10_feed 17 rfl) rfl rfl ?_
    refine g_iload (n := 33) hx 4 (dq tX10_feed 18 rfl) rfl rfl ?_
    refine g_callVv (n := 36) (As := [vI w]) (rest := []) hx (ctX10_put Γ M_16 w (by omega) (by omega) (by omega)) mlX10_219 (obX10 (by decide)) (dq tX10_feed 19 rfl) rfl (Nat.le_of_ble_eq_true rfl) (Nat.le_of_ble_eq_true rfl) (Nat.le_of_ble_eq_true rfl) rfl (fun M_22 p_24 => ?_)
    obtain ⟨f_25, h_26⟩ := p_24
    refine g_aload_n (n := 37) hx 0 (dq tX10_feed 20 rfl) rfl rfl ?_
    refine g_iload (n := 39) hx 5 (dq tX10_feed 21 rfl) rfl rfl ?_
    refine g_callVv (n := 42) (As := [vI v]) (rest := []) hx (ctX10_put Γ M_22 v (by omega) (by omega) (by omega)) mlX10_219 (obX10 (by decide)) (dq tX10_feed 22 rfl) rfl (Nat.le_of_ble_eq_true rfl) (Nat.le_of_ble_eq_true rfl) (Nat.le_of_ble_eq_true rfl) rfl (fun M_28 p_30 => ?_)
    obtain ⟨f_31, h_32⟩ := p_30
    refine g_aload_n (n := 43) hx 0 (dq tX10_feed 23 rfl) rfl rfl ?_
    refine g_getI (n := 46) hx glX10_216 (sX10_37 (by decide)) (dq tX10_feed 24 rfl) rfl (fun h_33l h_33u => ?_)
    exact g_iret hx hr (dq tX10_feed 25 rfl) (zrI h_33l h_33u (by decide) (by decide)) (fun u_ v_ huv_ => (((((f_31 u_ v_ ⟨huv_.1, huv_.2⟩).trans (f_25 u_ v_ ⟨huv_.1, huv_.2⟩)).trans (f_19 u_ v_ ⟨huv_.1, huv_.2⟩)).trans (f_13 u_ v_ ⟨huv_.1, huv_.2⟩)).trans (f_7 u_ v_ ⟨huv_.1, huv_.2⟩)))
  · refine g_iconst (n := 14) hx (dq tX10_feed 6 rfl) rfl ?_
    exact g_iret hx hr (dq tX10_feed 7 rfl) ⟨by decide, by decide⟩ (fun _ _ _ => rfl)

abbrev qctX10_end (M : zM) (n : Int) (z : Int) (M' : zM) : Prop := (∀ u_ v_, (u_ ≠ 229 ∨ v_ ≠ 37) → M' u_ v_ = M u_ v_)
set_option maxHeartbeats 4000000 in
set_option maxRecDepth 100000 in
theorem ctX10_end (Γ : Gam) (M : zM) (n : Int) (hnl : (-2147483648) ≤ n) (hnu : n ≤ 2147483647)  : CtI Γ yX10_end cX10_end 2 (some .int) 0 0 [aR Γ 229, vI n] M (qctX10_end M n) := by
  refine met_i (by decide) (Nat.le_of_ble_eq_true rfl) (fun x hx hr => ?_)
  show G Γ x 2 (QI Γ x (qctX10_end M n)) M 0 [(0, aR Γ 229), (1, vI n)] []
  refine g_iload_n (n := 1) hx 1 (dq tX10_end 0 rfl) rfl rfl ?_
  refine g_if_lt (n := 4) (t := 12) hx (dq tX10_end 1 rfl) (by decide) rfl (zrI hnl hnu (by decide) (by decide)) (fun c_1 => ?_) (fun c_1 => ?_)
  · refine g_iconst (n := 13) hx (dq tX10_end 6 rfl) rfl ?_
    exact g_iret hx hr (dq tX10_end 7 rfl) ⟨by decide, by decide⟩ (fun _ _ _ => rfl)
  · refine g_iload_n (n := 5) hx 1 (dq tX10_end 2 rfl) rfl rfl ?_
    refine g_aload_n (n := 6) hx 0 (dq tX10_end 3 rfl) rfl rfl ?_
    refine g_getI (n := 9) hx glX10_216 (sX10_37 (by decide)) (dq tX10_end 4 rfl) rfl (fun h_2l h_2u => ?_)
    refine g_icmp_le (n := 12) (t := 14) hx (dq tX10_end 5 rfl) (by decide) rfl (zrI hnl hnu (by decide) (by decide)) (zrI h_2l h_2u (by decide) (by decide)) (fun c_3 => ?_) (fun c_3 => ?_)
    · refine g_aload_n (n := 15) hx 0 (dq tX10_end 8 rfl) rfl rfl ?_
      refine g_iload_n (n := 16) hx 1 (dq tX10_end 9 rfl) rfl rfl ?_
      refine g_putI (n := 19) hx plX10_216 (sX10_37 (by decide)) (dq tX10_end 10 rfl) rfl (by omega) (by omega) (fun M_4 m_5e m_5 => ?_)
      refine g_iload_n (n := 20) hx 1 (dq tX10_end 11 rfl) rfl rfl ?_
      exact g_iret hx hr (dq tX10_end 12 rfl) (zrI hnl hnu (by decide) (by decide)) (fun u_ v_ huv_ => (m_5 u_ v_ huv_))
    · refine g_iconst (n := 13) hx (dq tX10_end 6 rfl) rfl ?_
      exact g_iret hx hr (dq tX10_end 7 rfl) ⟨by decide, by decide⟩ (fun _ _ _ => rfl)

abbrev qctX10_fails (M : zM) (code : Int) (place : Int) (M' : zM) : Prop := (∀ u_ v_, (u_ ≠ 229 ∨ v_ ≠ 39) → M' u_ v_ = M u_ v_) ∧ (1 ≤ M' 229 39)
set_option maxHeartbeats 4000000 in
set_option maxRecDepth 100000 in
theorem ctX10_fails (Γ : Gam) (M : zM) (code : Int) (hcodel : 0 ≤ code) (hcodeu : code ≤ 4) (place : Int) (hplacel : 0 ≤ place) (hplaceu : place ≤ 402)  : CtV Γ yX10_fails cX10_fails 3 none 0 0 [aR Γ 229, vI code, vI place] M (qctX10_fails M code place) := by
  refine met_v (by decide) (Nat.le_of_ble_eq_true rfl) (fun x hx hr => ?_)
  show G Γ x 3 (QV Γ x (qctX10_fails M code place)) M 0 [(0, aR Γ 229), (1, vI code), (2, vI place)] []
  refine g_aload_n (n := 1) hx 0 (dq tX10_fails 0 rfl) rfl rfl ?_
  refine g_aload_n (n := 2) hx 0 (dq tX10_fails 1 rfl) rfl rfl ?_
  refine g_getI (n := 5) hx glX10_246 (sX10_39 (by decide)) (dq tX10_fails 2 rfl) rfl (fun h_1l h_1u => ?_)
  refine g_if_ne (n := 8) (t := 19) hx (dq tX10_fails 3 rfl) (by decide) rfl (zrI h_1l h_1u (by decide) (by decide)) (fun c_2 => ?_) (fun c_2 => ?_)
  · refine g_aload_n (n := 20) hx 0 (dq tX10_fails 12 rfl) rfl rfl ?_
    refine g_getI (n := 23) hx glX10_246 (sX10_39 (by decide)) (dq tX10_fails 13 rfl) rfl (fun h_3l h_3u => ?_)
    refine g_putI (n := 26) hx plX10_246 (sX10_39 (by decide)) (dq tX10_fails 14 rfl) rfl (by omega) (by omega) (fun M_4 m_5e m_5 => ?_)
    exact g_vret hx hr (dq tX10_fails 15 rfl) ⟨(fun u_ v_ huv_ => (m_5 u_ v_ huv_)), (by omega)⟩
  · refine g_iconst (n := 9) hx (dq tX10_fails 4 rfl) rfl ?_
    refine g_bipush (n := 11) hx (dq tX10_fails 5 rfl) rfl (by decide) ?_
    refine g_iload_n (n := 12) hx 2 (dq tX10_fails 6 rfl) rfl rfl ?_
    refine g_imul (n := 13) hx (dq tX10_fails 7 rfl) rfl ?_
    refine g_iadd (n := 14) hx (dq tX10_fails 8 rfl) rfl ?_
    refine g_iload_n (n := 15) hx 1 (dq tX10_fails 9 rfl) rfl rfl ?_
    refine g_iadd (n := 16) hx (dq tX10_fails 10 rfl) rfl ?_
    refine g_goto (n := 23) hx (dq tX10_fails 11 rfl) (by decide) ?_
    refine g_putI (n := 26) hx plX10_246 (sX10_39 (by decide)) (dq tX10_fails 14 rfl) rfl (by omega) (by omega) (fun M_6 m_7e m_7 => ?_)
    exact g_vret hx hr (dq tX10_fails 15 rfl) ⟨(fun u_ v_ huv_ => (m_7 u_ v_ huv_)), (by omega)⟩

abbrev qctX10_sign (M : zM)  (z : Int) (M' : zM) : Prop := M = M' ∧ (-1) ≤ z ∧ z ≤ 255 ∧ (z = -1 ∨ M 229 38 < M 229 37)
set_option maxHeartbeats 4000000 in
set_option maxRecDepth 100000 in
theorem ctX10_sign (Γ : Gam) (M : zM)   : CtI Γ yX10_sign cX10_sign 1 (some .int) 0 0 [aR Γ 229] M (qctX10_sign M) := by
  refine met_i (by decide) (Nat.le_of_ble_eq_true rfl) (fun x hx hr => ?_)
  show G Γ x 1 (QI Γ x (qctX10_sign M)) M 0 [(0, aR Γ 229)] []
  refine g_aload_n (n := 1) hx 0 (dq tX10_sign 0 rfl) rfl rfl ?_
  refine g_getI (n := 4) hx glX10_249 (sX10_38 (by decide)) (dq tX10_sign 1 rfl) rfl (fun h_1l h_1u => ?_)
  refine g_aload_n (n := 5) hx 0 (dq tX10_sign 2 rfl) rfl rfl ?_
  refine g_getI (n := 8) hx glX10_216 (sX10_37 (by decide)) (dq tX10_sign 3 rfl) rfl (fun h_2l h_2u => ?_)
  refine g_icmp_ge (n := 11) (t := 27) hx (dq tX10_sign 4 rfl) (by decide) rfl (zrI h_1l h_1u (by decide) (by decide)) (zrI h_2l h_2u (by decide) (by decide)) (fun c_3 => ?_) (fun c_3 => ?_)
  · refine g_iconst (n := 28) hx (dq tX10_sign 13 rfl) rfl ?_
    exact g_iret hx hr (dq tX10_sign 14 rfl) ⟨by decide, by decide⟩ ⟨rfl, (by omega), (by omega), (by omega)⟩
  · refine g_aload_n (n := 12) hx 0 (dq tX10_sign 5 rfl) rfl rfl ?_
    refine g_getR (n := 15) hx glX10_122 (sX10_48 (by decide)) (dq tX10_sign 6 rfl) rfl ?_
    refine g_aload_n (n := 16) hx 0 (dq tX10_sign 7 rfl) rfl rfl ?_
    refine g_getI (n := 19) hx glX10_249 (sX10_38 (by decide)) (dq tX10_sign 8 rfl) rfl (fun h_4l h_4u => ?_)
    refine g_bald (n := 20) (q := (M 229 38).toNat) hx (aX10_48 (b := 229) (by decide)) (dq tX10_sign 9 rfl) rfl (by omega) (by omega) (by omega) rfl (fun h_5l h_5u => ?_)
    have h_5l : (-128) ≤ M (229 + 37) ((M 229 38).toNat) := h_5l
    have h_5u : M (229 + 37) ((M 229 38).toNat) ≤ 127 := h_5u
    refine g_sipush (n := 23) hx (dq tX10_sign 10 rfl) rfl (by decide) ?_
    refine g_iand (n := 24) hx (dq tX10_sign 11 rfl) rfl (fun z_6 h_7 h_81 h_82 => ?_)
    obtain ⟨h_83, h_84⟩ := h_81 (by omega) (by omega)
    clear h_81 h_82
    refine g_goto (n := 28) hx (dq tX10_sign 12 rfl) (by decide) ?_
    exact g_iret hx hr (dq tX10_sign 14 rfl) h_7 ⟨rfl, (by omega), (by omega), (by omega)⟩

abbrev qctX10_blanks (M : zM)  (M' : zM) : Prop := (∀ u_ v_, (u_ ≠ 229 ∨ v_ ≠ 38) → M' u_ v_ = M u_ v_) ∧ (M 229 38 ≤ M' 229 38) ∧ (M' 229 38 = M 229 38 ∨ M' 229 38 ≤ M 229 37)
set_option maxHeartbeats 4000000 in
set_option maxRecDepth 100000 in
theorem ctX10_blanks (Γ : Gam) (M : zM)   : CtV Γ yX10_blanks cX10_blanks 1 none 1 20 [aR Γ 229] M (qctX10_blanks M) := by
  refine met_v (by decide) (Nat.le_of_ble_eq_true rfl) (fun x hx hr => ?_)
  show G Γ x 1 (QV Γ x (qctX10_blanks M)) M 0 [(0, aR Γ 229)] []
  refine g_iv (fun hI0 => ?_)
  have hI_37 : (0 : Int) ≤ M 229 37 ∧ M 229 37 ≤ 400 := hI0 229 37
  have hI_38 : (0 : Int) ≤ M 229 38 ∧ M 229 38 ≤ 402 := hI0 229 38
  have hI_45 : (0 : Int) ≤ M 229 45 ∧ M 229 45 ≤ 402 := hI0 229 45
  have hI_42 : (0 : Int) ≤ M 229 42 ∧ M 229 42 ≤ 300 := hI0 229 42
  have hI_39 : (0 : Int) ≤ M 229 39 ∧ M 229 39 ≤ 100000 := hI0 229 39
  have hI_40 : (0 : Int) ≤ M 229 40 ∧ M 229 40 ≤ 5 := hI0 229 40
  have hI_41 : (0 : Int) ≤ M 229 41 ∧ M 229 41 ≤ 6 := hI0 229 41
  clear hI0
  have L_2 : ∀ (n_ : Nat) (M_1 : zM), (∀ u_ v_, (u_ ≠ 229 ∨ v_ ≠ 38) → M_1 u_ v_ = M u_ v_) → (M 229 38 ≤ M_1 229 38) → (M_1 229 38 = M 229 38 ∨ M_1 229 38 ≤ M 229 37) → ((402 - M_1 229 38).toNat = n_) → G Γ x 1 (QV Γ x (qctX10_blanks M)) M_1 0 [(0, aR Γ 229)] [] := by
    intro n_
    induction n_ using Nat.strongRecOn with
    | _ n_ ih_3 =>
      intro M_1 f_4 h_6 h_7 hm_5
      refine g_aload_n (n := 1) hx 0 (dq tX10_blanks 0 rfl) rfl rfl ?_
      have e_8 : M_1 229 37 = M 229 37 := (f_4 229 37 (by omega))
      refine g_callVi (n := 4) (As := []) (rest := []) hx (ctX10_sign Γ M_1 ) mlX10_252 (obX10 (by decide)) (dq tX10_blanks 1 rfl) rfl (Nat.le_of_ble_eq_true rfl) (Nat.le_of_ble_eq_true rfl) (Nat.le_of_ble_eq_true rfl) rfl (fun z_9 M_10 h_11 p_12 => ?_)
      obtain ⟨rfl, h_14, h_15, h_16⟩ := p_12
      refine g_bipush (n := 6) hx (dq tX10_blanks 2 rfl) rfl (by decide) ?_
      refine g_icmp_ne (n := 9) (t := 22) hx (dq tX10_blanks 3 rfl) (by decide) rfl h_11 ⟨by decide, by decide⟩ (fun c_17 => ?_) (fun c_17 => ?_)
      · exact g_vret hx hr (dq tX10_blanks 11 rfl) ⟨(fun u_ v_ huv_ => (f_4 u_ v_ huv_)), (by omega), (by omega)⟩
      · refine g_aload_n (n := 10) hx 0 (dq tX10_blanks 4 rfl) rfl rfl ?_
        refine g_dup (n := 11) hx (dq tX10_blanks 5 rfl) rfl rfl ?_
        refine g_getI (n := 14) hx glX10_249 (sX10_38 (by decide)) (dq tX10_blanks 6 rfl) rfl (fun h_18l h_18u => ?_)
        refine g_iconst (n := 15) hx (dq tX10_blanks 7 rfl) rfl ?_
        refine g_iadd (n := 16) hx (dq tX10_blanks 8 rfl) rfl ?_
        refine g_putI (n := 19) hx plX10_249 (sX10_38 (by decide)) (dq tX10_blanks 9 rfl) rfl (by omega) (by omega) (fun M_19 m_20e m_20 => ?_)
        refine g_goto (n := 0) hx (dq tX10_blanks 10 rfl) (by decide) ?_
        have e_21 : M_19 229 37 = M_1 229 37 := (m_20 229 37 (by omega))
        exact ih_3 _ (by omega) M_19 (fun u_ v_ huv_ => ((m_20 u_ v_ huv_).trans (f_4 u_ v_ huv_))) (by first | assumption | omega) (by first | assumption | omega) rfl
  exact L_2 _ M (fun _ _ _ => rfl) (by first | assumption | omega) (by first | assumption | omega) rfl

abbrev qctX10_isDigit (M : zM)  (z : Int) (M' : zM) : Prop := M = M' ∧ (z = 0 ∨ (z = 1 ∧ M 229 38 < M 229 37))
set_option maxHeartbeats 4000000 in
set_option maxRecDepth 100000 in
theorem ctX10_isDigit (Γ : Gam) (M : zM)   : CtI Γ yX10_isDigit cX10_isDigit 1 (some .boolean) 1 25 [aR Γ 229] M (qctX10_isDigit M) := by
  refine met_i (by decide) (Nat.le_of_ble_eq_true rfl) (fun x hx hr => ?_)
  show G Γ x 1 (QI Γ x (qctX10_isDigit M)) M 0 [(0, aR Γ 229)] []
  refine g_aload_n (n := 1) hx 0 (dq tX10_isDigit 0 rfl) rfl rfl ?_
  refine g_callVi (n := 4) (As := []) (rest := []) hx (ctX10_sign Γ M ) mlX10_252 (obX10 (by decide)) (dq tX10_isDigit 1 rfl) rfl (Nat.le_of_ble_eq_true rfl) (Nat.le_of_ble_eq_true rfl) (Nat.le_of_ble_eq_true rfl) rfl (fun z_1 M_2 h_3 p_4 => ?_)
  obtain ⟨rfl, h_6, h_7, h_8⟩ := p_4
  refine g_i2l (n := 5) hx (dq tX10_isDigit 2 rfl) rfl h_3 ?_
  refine g_ldc2 (n := 8) (z := 48) hx wd_1449 (by decide) (dq tX10_isDigit 3 rfl) rfl ?_
  refine g_ldc2 (n := 11) (z := 57) hx wd_1450 (by decide) (dq tX10_isDigit 4 rfl) rfl ?_
  refine g_callSi (n := 14) (As := [vL z_1, vL 48, vL 57]) (rest := []) hx (ctX10_in Γ M z_1 (by omega) (by omega) 48 (by omega) (by omega) 57 (by omega) (by omega)) mlX10_191 (dq tX10_isDigit 5 rfl) rfl (Nat.le_of_ble_eq_true rfl) (Nat.le_of_ble_eq_true rfl) (Nat.le_of_ble_eq_true rfl) rfl (fun z_9 M_10 h_11 p_12 => ?_)
  obtain ⟨rfl, b_14, h_15⟩ := p_12
  exact g_zret hx hr (dq tX10_isDigit 6 rfl) (by omega) ⟨rfl, (by omega)⟩

abbrev qctX10_wordOf (M : zM) (k : Int) (z : Nat) (M' : zM) : Prop := M = M' ∧ (sln z = wlF k) ∧ (z < 25)
set_option maxHeartbeats 4000000 in
set_option maxRecDepth 100000 in
theorem ctX10_wordOf (Γ : Gam) (M : zM) (k : Int) (hkl : 0 ≤ k) (hku : k ≤ 12)  : CtS Γ yX10_wordOf cX10_wordOf 1 (some (.object "java/lang/String")) 0 0 [vI k] M (qctX10_wordOf M k) := by
  refine met_s (by decide) (Nat.le_of_ble_eq_true rfl) (fun x hx hr => ?_)
  show G Γ x 1 (QS Γ x (qctX10_wordOf M k)) M 0 [(0, vI k)] []
  refine g_iload_n (n := 1) hx 0 (dq tX10_wordOf 0 rfl) rfl rfl ?_
  by_cases c_1 : k = 0
  · refine g_swI (t := 64) hx (dq tX10_wordOf 1 rfl) c_1 (by decide) (by decide) rfl (by decide) ?_
    refine g_ldcS (n := 66) (q := 0) hx rfl rfl rfl (dq tX10_wordOf 2 rfl) rfl ?_
    exact g_sret (i := 0) hx hr (dq tX10_wordOf 3 rfl) ⟨rfl, (by have e : k = 0 := (by omega); rw [e]; decide), (by omega)⟩
  by_cases c_2 : k = 1
  · refine g_swI (t := 67) hx (dq tX10_wordOf 1 rfl) c_2 (by decide) (by decide) rfl (by decide) ?_
    refine g_ldcS (n := 69) (q := 1) hx rfl rfl rfl (dq tX10_wordOf 4 rfl) rfl ?_
    exact g_sret (i := 1) hx hr (dq tX10_wordOf 5 rfl) ⟨rfl, (by have e : k = 1 := (by omega); rw [e]; decide), (by omega)⟩
  by_cases c_3 : k = 2
  · refine g_swI (t := 70) hx (dq tX10_wordOf 1 rfl) c_3 (by decide) (by decide) rfl (by decide) ?_
    refine g_ldcS (n := 72) (q := 2) hx rfl rfl rfl (dq tX10_wordOf 6 rfl) rfl ?_
    exact g_sret (i := 2) hx hr (dq tX10_wordOf 7 rfl) ⟨rfl, (by have e : k = 2 := (by omega); rw [e]; decide), (by omega)⟩
  by_cases c_4 : k = 3
  · refine g_swI (t := 73) hx (dq tX10_wordOf 1 rfl) c_4 (by decide) (by decide) rfl (by decide) ?_
    refine g_ldcS (n := 75) (q := 3) hx rfl rfl rfl (dq tX10_wordOf 8 rfl) rfl ?_
    exact g_sret (i := 3) hx hr (dq tX10_wordOf 9 rfl) ⟨rfl, (by have e : k = 3 := (by omega); rw [e]; decide), (by omega)⟩
  by_cases c_5 : k = 4
  · refine g_swI (t := 76) hx (dq tX10_wordOf 1 rfl) c_5 (by decide) (by decide) rfl (by decide) ?_
    refine g_ldcS (n := 78) (q := 4) hx rfl rfl rfl (dq tX10_wordOf 10 rfl) rfl ?_
    exact g_sret (i := 4) hx hr (dq tX10_wordOf 11 rfl) ⟨rfl, (by have e : k = 4 := (by omega); rw [e]; decide), (by omega)⟩
  by_cases c_6 : k = 5
  · refine g_swI (t := 79) hx (dq tX10_wordOf 1 rfl) c_6 (by decide) (by decide) rfl (by decide) ?_
    refine g_ldcS (n := 81) (q := 5) hx rfl rfl rfl (dq tX10_wordOf 12 rfl) rfl ?_
    exact g_sret (i := 5) hx hr (dq tX10_wordOf 13 rfl) ⟨rfl, (by have e : k = 5 := (by omega); rw [e]; decide), (by omega)⟩
  by_cases c_7 : k = 6
  · refine g_swI (t := 82) hx (dq tX10_wordOf 1 rfl) c_7 (by decide) (by decide) rfl (by decide) ?_
    refine g_ldcS (n := 84) (q := 6) hx rfl rfl rfl (dq tX10_wordOf 14 rfl) rfl ?_
    exact g_sret (i := 6) hx hr (dq tX10_wordOf 15 rfl) ⟨rfl, (by have e : k = 6 := (by omega); rw [e]; decide), (by omega)⟩
  by_cases c_8 : k = 7
  · refine g_swI (t := 85) hx (dq tX10_wordOf 1 rfl) c_8 (by decide) (by decide) rfl (by decide) ?_
    refine g_ldcS (n := 87) (q := 7) hx rfl rfl rfl (dq tX10_wordOf 16 rfl) rfl ?_
    exact g_sret (i := 7) hx hr (dq tX10_wordOf 17 rfl) ⟨rfl, (by have e : k = 7 := (by omega); rw [e]; decide), (by omega)⟩
  by_cases c_9 : k = 8
  · refine g_swI (t := 88) hx (dq tX10_wordOf 1 rfl) c_9 (by decide) (by decide) rfl (by decide) ?_
    refine g_ldcS (n := 90) (q := 8) hx rfl rfl rfl (dq tX10_wordOf 18 rfl) rfl ?_
    exact g_sret (i := 8) hx hr (dq tX10_wordOf 19 rfl) ⟨rfl, (by have e : k = 8 := (by omega); rw [e]; decide), (by omega)⟩
  by_cases c_10 : k = 9
  · refine g_swI (t := 91) hx (dq tX10_wordOf 1 rfl) c_10 (by decide) (by decide) rfl (by decide) ?_
    refine g_ldcS (n := 93) (q := 9) hx rfl rfl rfl (dq tX10_wordOf 20 rfl) rfl ?_
    exact g_sret (i := 9) hx hr (dq tX10_wordOf 21 rfl) ⟨rfl, (by have e : k = 9 := (by omega); rw [e]; decide), (by omega)⟩
  by_cases c_11 : k = 10
  · refine g_swI (t := 94) hx (dq tX10_wordOf 1 rfl) c_11 (by decide) (by decide) rfl (by decide) ?_
    refine g_ldcS (n := 96) (q := 10) hx rfl rfl rfl (dq tX10_wordOf 22 rfl) rfl ?_
    exact g_sret (i := 10) hx hr (dq tX10_wordOf 23 rfl) ⟨rfl, (by have e : k = 10 := (by omega); rw [e]; decide), (by omega)⟩
  by_cases c_12 : k = 11
  · refine g_swI (t := 97) hx (dq tX10_wordOf 1 rfl) c_12 (by decide) (by decide) rfl (by decide) ?_
    refine g_ldcS (n := 99) (q := 11) hx rfl rfl rfl (dq tX10_wordOf 24 rfl) rfl ?_
    exact g_sret (i := 11) hx hr (dq tX10_wordOf 25 rfl) ⟨rfl, (by have e : k = 11 := (by omega); rw [e]; decide), (by omega)⟩
  refine g_swO (t := 100) hx (dq tX10_wordOf 1 rfl) (zrI hkl hku (by decide) (by decide)) (by omega) (by decide) ?_
  refine g_ldcS (n := 102) (q := 12) hx rfl rfl rfl (dq tX10_wordOf 26 rfl) rfl ?_
  exact g_sret (i := 12) hx hr (dq tX10_wordOf 27 rfl) ⟨rfl, (by have e : k = 12 := (by omega); rw [e]; decide), (by omega)⟩

abbrev qctX10_riverWord (M : zM) (k : Int) (z : Nat) (M' : zM) : Prop := M = M' ∧ (sln z = rlF k) ∧ (z < 25)
set_option maxHeartbeats 4000000 in
set_option maxRecDepth 100000 in
theorem ctX10_riverWord (Γ : Gam) (M : zM) (k : Int) (hkl : 0 ≤ k) (hku : k ≤ 5)  : CtS Γ yX10_riverWord cX10_riverWord 1 (some (.object "java/lang/String")) 0 0 [vI k] M (qctX10_riverWord M k) := by
  refine met_s (by decide) (Nat.le_of_ble_eq_true rfl) (fun x hx hr => ?_)
  show G Γ x 1 (QS Γ x (qctX10_riverWord M k)) M 0 [(0, vI k)] []
  refine g_iload_n (n := 1) hx 0 (dq tX10_riverWord 0 rfl) rfl rfl ?_
  by_cases c_1 : k = 0
  · refine g_swI (t := 36) hx (dq tX10_riverWord 1 rfl) c_1 (by decide) (by decide) rfl (by decide) ?_
    refine g_ldcwS (n := 39) (q := 16) hx rfl rfl rfl (dq tX10_riverWord 2 rfl) rfl ?_
    exact g_sret (i := 16) hx hr (dq tX10_riverWord 3 rfl) ⟨rfl, (by have e : k = 0 := (by omega); rw [e]; decide), (by omega)⟩
  by_cases c_2 : k = 1
  · refine g_swI (t := 40) hx (dq tX10_riverWord 1 rfl) c_2 (by decide) (by decide) rfl (by decide) ?_
    refine g_ldcS (n := 42) (q := 5) hx rfl rfl rfl (dq tX10_riverWord 4 rfl) rfl ?_
    exact g_sret (i := 5) hx hr (dq tX10_riverWord 5 rfl) ⟨rfl, (by have e : k = 1 := (by omega); rw [e]; decide), (by omega)⟩
  by_cases c_3 : k = 2
  · refine g_swI (t := 43) hx (dq tX10_riverWord 1 rfl) c_3 (by decide) (by decide) rfl (by decide) ?_
    refine g_ldcwS (n := 46) (q := 17) hx rfl rfl rfl (dq tX10_riverWord 6 rfl) rfl ?_
    exact g_sret (i := 17) hx hr (dq tX10_riverWord 7 rfl) ⟨rfl, (by have e : k = 2 := (by omega); rw [e]; decide), (by omega)⟩
  by_cases c_4 : k = 3
  · refine g_swI (t := 47) hx (dq tX10_riverWord 1 rfl) c_4 (by decide) (by decide) rfl (by decide) ?_
    refine g_ldcS (n := 49) (q := 1) hx rfl rfl rfl (dq tX10_riverWord 8 rfl) rfl ?_
    exact g_sret (i := 1) hx hr (dq tX10_riverWord 9 rfl) ⟨rfl, (by have e : k = 3 := (by omega); rw [e]; decide), (by omega)⟩
  by_cases c_5 : k = 4
  · refine g_swI (t := 50) hx (dq tX10_riverWord 1 rfl) c_5 (by decide) (by decide) rfl (by decide) ?_
    refine g_ldcS (n := 52) (q := 0) hx rfl rfl rfl (dq tX10_riverWord 10 rfl) rfl ?_
    exact g_sret (i := 0) hx hr (dq tX10_riverWord 11 rfl) ⟨rfl, (by have e : k = 4 := (by omega); rw [e]; decide), (by omega)⟩
  refine g_swO (t := 53) hx (dq tX10_riverWord 1 rfl) (zrI hkl hku (by decide) (by decide)) (by omega) (by decide) ?_
  refine g_ldcwS (n := 56) (q := 18) hx rfl rfl rfl (dq tX10_riverWord 12 rfl) rfl ?_
  exact g_sret (i := 18) hx hr (dq tX10_riverWord 13 rfl) ⟨rfl, (by have e : k = 5 := (by omega); rw [e]; decide), (by omega)⟩

abbrev qctX10_actWord (M : zM) (k : Int) (z : Nat) (M' : zM) : Prop := M = M' ∧ (sln z = alF k) ∧ (z < 25)
set_option maxHeartbeats 4000000 in
set_option maxRecDepth 100000 in
theorem ctX10_actWord (Γ : Gam) (M : zM) (k : Int) (hkl : 0 ≤ k) (hku : k ≤ 4)  : CtS Γ yX10_actWord cX10_actWord 1 (some (.object "java/lang/String")) 0 0 [vI k] M (qctX10_actWord M k) := by
  refine met_s (by decide) (Nat.le_of_ble_eq_true rfl) (fun x hx hr => ?_)
  show G Γ x 1 (QS Γ x (qctX10_actWord M k)) M 0 [(0, vI k)] []
  refine g_iload_n (n := 1) hx 0 (dq tX10_actWord 0 rfl) rfl rfl ?_
  by_cases c_1 : k = 0
  · refine g_swI (t := 32) hx (dq tX10_actWord 1 rfl) c_1 (by decide) (by decide) rfl (by decide) ?_
    refine g_ldcwS (n := 35) (q := 19) hx rfl rfl rfl (dq tX10_actWord 2 rfl) rfl ?_
    exact g_sret (i := 19) hx hr (dq tX10_actWord 3 rfl) ⟨rfl, (by have e : k = 0 := (by omega); rw [e]; decide), (by omega)⟩
  by_cases c_2 : k = 1
  · refine g_swI (t := 36) hx (dq tX10_actWord 1 rfl) c_2 (by decide) (by decide) rfl (by decide) ?_
    refine g_ldcwS (n := 39) (q := 20) hx rfl rfl rfl (dq tX10_actWord 4 rfl) rfl ?_
    exact g_sret (i := 20) hx hr (dq tX10_actWord 5 rfl) ⟨rfl, (by have e : k = 1 := (by omega); rw [e]; decide), (by omega)⟩
  by_cases c_3 : k = 2
  · refine g_swI (t := 40) hx (dq tX10_actWord 1 rfl) c_3 (by decide) (by decide) rfl (by decide) ?_
    refine g_ldcwS (n := 43) (q := 21) hx rfl rfl rfl (dq tX10_actWord 6 rfl) rfl ?_
    exact g_sret (i := 21) hx hr (dq tX10_actWord 7 rfl) ⟨rfl, (by have e : k = 2 := (by omega); rw [e]; decide), (by omega)⟩
  by_cases c_4 : k = 3
  · refine g_swI (t := 44) hx (dq tX10_actWord 1 rfl) c_4 (by decide) (by decide) rfl (by decide) ?_
    refine g_ldcwS (n := 47) (q := 22) hx rfl rfl rfl (dq tX10_actWord 8 rfl) rfl ?_
    exact g_sret (i := 22) hx hr (dq tX10_actWord 9 rfl) ⟨rfl, (by have e : k = 3 := (by omega); rw [e]; decide), (by omega)⟩
  refine g_swO (t := 48) hx (dq tX10_actWord 1 rfl) (zrI hkl hku (by decide) (by decide)) (by omega) (by decide) ?_
  refine g_ldcwS (n := 51) (q := 23) hx rfl rfl rfl (dq tX10_actWord 10 rfl) rfl ?_
  exact g_sret (i := 23) hx hr (dq tX10_actWord 11 rfl) ⟨rfl, (by have e : k = 4 := (by omega); rw [e]; decide), (by omega)⟩

abbrev qctX10_stood (M : zM) (w : Nat) (z : Int) (M' : zM) : Prop := M = M' ∧ (z = 0 ∨ (z = 1 ∧ M 229 38 + sln w ≤ M 229 37))
set_option maxHeartbeats 4000000 in
set_option maxRecDepth 100000 in
theorem ctX10_stood (Γ : Gam) (M : zM) (w : Nat) (qw : String × Nat × String × Nat) (hw : sN[w]? = some qw) (hwn : qw.2.2.2 ≤ 100) (pre0 : 1 ≤ sln w) : CtI Γ yX10_stood cX10_stood 5 (some .boolean) 4 85 [aR Γ 229, sR Γ w] M (qctX10_stood M w) := by
  refine met_i (by decide) (Nat.le_of_ble_eq_true rfl) (fun x hx hr => ?_)
  show G Γ x 5 (QI Γ x (qctX10_stood M w)) M 0 [(0, aR Γ 229), (1, sR Γ w)] []
  refine g_iv (fun hI0 => ?_)
  have hI_37 : (0 : Int) ≤ M 229 37 ∧ M 229 37 ≤ 400 := hI0 229 37
  have hI_38 : (0 : Int) ≤ M 229 38 ∧ M 229 38 ≤ 402 := hI0 229 38
  have hI_45 : (0 : Int) ≤ M 229 45 ∧ M 229 45 ≤ 402 := hI0 229 45
  have hI_42 : (0 : Int) ≤ M 229 42 ∧ M 229 42 ≤ 300 := hI0 229 42
  have hI_39 : (0 : Int) ≤ M 229 39 ∧ M 229 39 ≤ 100000 := hI0 229 39
  have hI_40 : (0 : Int) ≤ M 229 40 ∧ M 229 40 ≤ 5 := hI0 229 40
  have hI_41 : (0 : Int) ≤ M 229 41 ∧ M 229 41 ≤ 6 := hI0 229 41
  clear hI0
  have hwl := sln_eq hw
  refine g_aload_n (n := 1) hx 0 (dq tX10_stood 0 rfl) rfl rfl ?_
  refine g_getI (n := 4) hx glX10_249 (sX10_38 (by decide)) (dq tX10_stood 1 rfl) rfl (fun h_1l h_1u => ?_)
  refine g_istore_n (n := 5) (lv' := [(2, vI (M 229 38)), (0, aR Γ 229), (1, sR Γ w)]) hx (dq tX10_stood 2 rfl) (by decide) rfl rfl ?_
  have L_3 : ∀ (n_ : Nat) (i_2 : Int), (0 ≤ i_2) → (i_2 ≤ 402) → (M 229 38 ≤ i_2) → (i_2 = M 229 38 ∨ i_2 ≤ M 229 37) → ((402 - i_2).toNat = n_) → G Γ x 5 (QI Γ x (qctX10_stood M w)) M 5 [(2, vI i_2), (0, aR Γ 229), (1, sR Γ w)] [] := by
    intro n_
    induction n_ using Nat.strongRecOn with
    | _ n_ ih_4 =>
      intro i_2 h_9 h_10 h_7 h_8 hm_6
      refine g_iload_n (n := 6) hx 0 (dq tX10_stood 3 rfl) rfl rfl ?_
      refine g_aload_n (n := 7) hx 1 (dq tX10_stood 4 rfl) rfl rfl ?_
      refine g_getI (n := 10) hx glX10_216 (sX10_37 (by decide)) (dq tX10_stood 5 rfl) rfl (fun h_11l h_11u => ?_)
      refine g_icmp_ge (n := 13) (t := 41) hx (dq tX10_stood 6 rfl) (by decide) rfl ⟨by omega, by omega⟩ (zrI h_11l h_11u (by decide) (by decide)) (fun c_12 => ?_) (fun c_12 => ?_)
      · refine g_iload_n (n := 42) hx 0 (dq tX10_stood 21 rfl) rfl rfl ?_
        refine g_aload_n (n := 43) hx 1 (dq tX10_stood 22 rfl) rfl rfl ?_
        refine g_getI (n := 46) hx glX10_249 (sX10_38 (by decide)) (dq tX10_stood 23 rfl) rfl (fun h_13l h_13u => ?_)
        refine g_isub (n := 47) hx (dq tX10_stood 24 rfl) rfl ?_
        refine g_aload_nS (n := 48) hx 2 (dq tX10_stood 25 rfl) rfl rfl ?_
        refine g_callSt (n := 51) (As := []) (rest := [vI (i_2 - (M 229 38))]) hx (ctJ0_length_8abf5 Γ M w _ hw) mlX10_260 rfl hw (dq tX10_stood 26 rfl) rfl (Nat.le_of_ble_eq_true rfl) (Nat.le_of_ble_eq_true rfl) (Nat.le_of_ble_eq_true rfl) rfl (fun z_14 M_15 h_16 p_17 => ?_)
        obtain ⟨rfl, h_18⟩ := p_17
        refine g_icmp_ne (n := 54) (t := 58) hx (dq tX10_stood 27 rfl) (by decide) rfl ⟨by omega, by omega⟩ h_16 (fun c_19 => ?_) (fun c_19 => ?_)
        · refine g_iconst (n := 59) hx (dq tX10_stood 30 rfl) rfl ?_
          refine g_istore_n (n := 60) (lv' := [(3, vI 0), (2, vI i_2), (0, aR Γ 229), (1, sR Γ w)]) hx (dq tX10_stood 31 rfl) (by decide) rfl rfl ?_
          refine g_iconst (n := 61) hx (dq tX10_stood 32 rfl) rfl ?_
          refine g_istore (n := 63) (lv' := [(4, vI 0), (3, vI 0), (2, vI i_2), (0, aR Γ 229), (1, sR Γ w)]) hx (dq tX10_stood 33 rfl) (by decide) rfl rfl ?_
          have L_22 : ∀ (n_ : Nat) (i_20 : Int) (i_21 : Int), (0 ≤ i_20) → (i_20 ≤ 100) → (0 ≤ i_21) → (i_21 ≤ 1) → ((i_21 = 0 ∨ i_2 - M 229 38 = sln w)) → ((100 - i_20).toNat = n_) → G Γ x 5 (QI Γ x (qctX10_stood M w)) M 63 [(4, vI i_20), (3, vI i_21), (2, vI i_2), (0, aR Γ 229), (1, sR Γ w)] [] := by
            intro n_
            induction n_ using Nat.strongRecOn with
            | _ n_ ih_23 =>
              intro i_20 i_21 h_27 h_28 h_29 h_30 h_26 hm_25
              refine g_iload (n := 65) hx 0 (dq tX10_stood 34 rfl) rfl rfl ?_
              refine g_aload_nS (n := 66) hx 4 (dq tX10_stood 35 rfl) rfl rfl ?_
              refine g_callSt (n := 69) (As := []) (rest := [vI i_20]) hx (ctJ0_length_8abf5 Γ M w _ hw) mlX10_260 rfl hw (dq tX10_stood 36 rfl) rfl (Nat.le_of_ble_eq_true rfl) (Nat.le_of_ble_eq_true rfl) (Nat.le_of_ble_eq_true rfl) rfl (fun z_31 M_32 h_33 p_34 => ?_)
              obtain ⟨rfl, h_35⟩ := p_34
              refine g_icmp_ge (n := 72) (t := 109) hx (dq tX10_stood 37 rfl) (by decide) rfl ⟨by omega, by omega⟩ h_33 (fun c_36 => ?_) (fun c_36 => ?_)
              · refine g_iload_n (n := 110) hx 1 (dq tX10_stood 57 rfl) rfl rfl ?_
                exact g_zret hx hr (dq tX10_stood 58 rfl) (by omega) ⟨rfl, (by omega)⟩
              · refine g_iload_n (n := 73) hx 1 (dq tX10_stood 38 rfl) rfl rfl ?_
                refine g_if_eq (n := 76) (t := 109) hx (dq tX10_stood 39 rfl) (by decide) rfl ⟨by omega, by omega⟩ (fun c_37 => ?_) (fun c_37 => ?_)
                · refine g_iload_n (n := 110) hx 1 (dq tX10_stood 57 rfl) rfl rfl ?_
                  exact g_zret hx hr (dq tX10_stood 58 rfl) (by omega) ⟨rfl, (by omega)⟩
                · refine g_aload_n (n := 77) hx 3 (dq tX10_stood 40 rfl) rfl rfl ?_
                  refine g_getR (n := 80) hx glX10_122 (sX10_48 (by decide)) (dq tX10_stood 41 rfl) rfl ?_
                  refine g_aload_n (n := 81) hx 3 (dq tX10_stood 42 rfl) rfl rfl ?_
                  refine g_getI (n := 84) hx glX10_249 (sX10_38 (by decide)) (dq tX10_stood 43 rfl) rfl (fun h_38l h_38u => ?_)
                  refine g_iload (n := 86) hx 0 (dq tX10_stood 44 rfl) rfl rfl ?_
                  refine g_iadd (n := 87) hx (dq tX10_stood 45 rfl) rfl ?_
                  refine g_bald (n := 88) (q := ((M 229 38) + i_20).toNat) hx (aX10_48 (b := 229) (by decide)) (dq tX10_stood 46 rfl) rfl (by omega) (by omega) (by omega) rfl (fun h_39l h_39u => ?_)
                  have h_39l : (-128) ≤ M (229 + 37) (((M 229 38) + i_20).toNat) := h_39l
                  have h_39u : M (229 + 37) (((M 229 38) + i_20).toNat) ≤ 127 := h_39u
                  refine g_aload_nS (n := 89) hx 4 (dq tX10_stood 47 rfl) rfl rfl ?_
                  refine g_iload (n := 91) hx 0 (dq tX10_stood 48 rfl) rfl rfl ?_
                  refine g_callSt (n := 94) (As := [vI i_20]) (rest := [vI (M (229 + 37) (((M 229 38) + i_20).toNat))]) hx (ctJ0_charAt_5068e Γ M w _ hw i_20 (by omega) (by omega)) mlX10_264 rfl hw (dq tX10_stood 49 rfl) rfl (Nat.le_of_ble_eq_true rfl) (Nat.le_of_ble_eq_true rfl) (Nat.le_of_ble_eq_true rfl) rfl (fun z_40 M_41 h_42 p_43 => ?_)
                  obtain ⟨rfl, h_441, h_442⟩ := p_43
                  refine g_icmp_ne (n := 97) (t := 101) hx (dq tX10_stood 50 rfl) (by decide) rfl (zrI h_39l h_39u (by decide) (by decide)) h_42 (fun c_45 => ?_) (fun c_45 => ?_)
                  · refine g_iconst (n := 102) hx (dq tX10_stood 53 rfl) rfl ?_
                    refine g_istore_n (n := 103) (lv' := [(3, vI 0), (4, vI i_20), (2, vI i_2), (0, aR Γ 229), (1, sR Γ w)]) hx (dq tX10_stood 54 rfl) (by decide) rfl rfl ?_
                    refine g_iinc (n := 106) (lv' := [(4, vI (i_20 + 1)), (3, vI 0), (2, vI i_2), (0, aR Γ 229), (1, sR Γ w)]) hx 1 (dq tX10_stood 55 rfl) rfl (by decide) rfl rfl ?_
                    refine g_goto (n := 63) hx (dq tX10_stood 56 rfl) (by decide) ?_
                    exact ih_23 _ (by omega) (i_20 + 1) 0 (by omega) (by omega) (by omega) (by omega) (by first | assumption | omega) rfl
                  · refine g_iconst (n := 98) hx (dq tX10_stood 51 rfl) rfl ?_
                    refine g_goto (n := 102) hx (dq tX10_stood 52 rfl) (by decide) ?_
                    refine g_istore_n (n := 103) (lv' := [(3, vI 1), (4, vI i_20), (2, vI i_2), (0, aR Γ 229), (1, sR Γ w)]) hx (dq tX10_stood 54 rfl) (by decide) rfl rfl ?_
                    refine g_iinc (n := 106) (lv' := [(4, vI (i_20 + 1)), (3, vI 1), (2, vI i_2), (0, aR Γ 229), (1, sR Γ w)]) hx 1 (dq tX10_stood 55 rfl) rfl (by decide) rfl rfl ?_
                    refine g_goto (n := 63) hx (dq tX10_stood 56 rfl) (by decide) ?_
                    exact ih_23 _ (by omega) (i_20 + 1) 1 (by omega) (by omega) (by omega) (by omega) (by first | assumption | omega) rfl
          exact L_22 _ 0 0 (by omega) (by omega) (by omega) (by omega) (by first | assumption | omega) rfl
        · refine g_iconst (n := 55) hx (dq tX10_stood 28 rfl) rfl ?_
          refine g_goto (n := 59) hx (dq tX10_stood 29 rfl) (by decide) ?_
          refine g_istore_n (n := 60) (lv' := [(3, vI 1), (2, vI i_2), (0, aR Γ 229), (1, sR Γ w)]) hx (dq tX10_stood 31 rfl) (by decide) rfl rfl ?_
          refine g_iconst (n := 61) hx (dq tX10_stood 32 rfl) rfl ?_
          refine g_istore (n := 63) (lv' := [(4, vI 0), (3, vI 1), (2, vI i_2), (0, aR Γ 229), (1, sR Γ w)]) hx (dq tX10_stood 33 rfl) (by decide) rfl rfl ?_
          have L_48 : ∀ (n_ : Nat) (i_46 : Int) (i_47 : Int), (0 ≤ i_46) → (i_46 ≤ 100) → (0 ≤ i_47) → (i_47 ≤ 1) → ((i_47 = 0 ∨ i_2 - M 229 38 = sln w)) → ((100 - i_46).toNat = n_) → G Γ x 5 (QI Γ x (qctX10_stood M w)) M 63 [(4, vI i_46), (3, vI i_47), (2, vI i_2), (0, aR Γ 229), (1, sR Γ w)] [] := by
            intro n_
            induction n_ using Nat.strongRecOn with
            | _ n_ ih_49 =>
              intro i_46 i_47 h_53 h_54 h_55 h_56 h_52 hm_51
              refine g_iload (n := 65) hx 0 (dq tX10_stood 34 rfl) rfl rfl ?_
              refine g_aload_nS (n := 66) hx 4 (dq tX10_stood 35 rfl) rfl rfl ?_
              refine g_callSt (n := 69) (As := []) (rest := [vI i_46]) hx (ctJ0_length_8abf5 Γ M w _ hw) mlX10_260 rfl hw (dq tX10_stood 36 rfl) rfl (Nat.le_of_ble_eq_true rfl) (Nat.le_of_ble_eq_true rfl) (Nat.le_of_ble_eq_true rfl) rfl (fun z_57 M_58 h_59 p_60 => ?_)
              obtain ⟨rfl, h_61⟩ := p_60
              refine g_icmp_ge (n := 72) (t := 109) hx (dq tX10_stood 37 rfl) (by decide) rfl ⟨by omega, by omega⟩ h_59 (fun c_62 => ?_) (fun c_62 => ?_)
              · refine g_iload_n (n := 110) hx 1 (dq tX10_stood 57 rfl) rfl rfl ?_
                exact g_zret hx hr (dq tX10_stood 58 rfl) (by omega) ⟨rfl, (by omega)⟩
              · refine g_iload_n (n := 73) hx 1 (dq tX10_stood 38 rfl) rfl rfl ?_
                refine g_if_eq (n := 76) (t := 109) hx (dq tX10_stood 39 rfl) (by decide) rfl ⟨by omega, by omega⟩ (fun c_63 => ?_) (fun c_63 => ?_)
                · refine g_iload_n (n := 110) hx 1 (dq tX10_stood 57 rfl) rfl rfl ?_
                  exact g_zret hx hr (dq tX10_stood 58 rfl) (by omega) ⟨rfl, (by omega)⟩
                · refine g_aload_n (n := 77) hx 3 (dq tX10_stood 40 rfl) rfl rfl ?_
                  refine g_getR (n := 80) hx glX10_122 (sX10_48 (by decide)) (dq tX10_stood 41 rfl) rfl ?_
                  refine g_aload_n (n := 81) hx 3 (dq tX10_stood 42 rfl) rfl rfl ?_
                  refine g_getI (n := 84) hx glX10_249 (sX10_38 (by decide)) (dq tX10_stood 43 rfl) rfl (fun h_64l h_64u => ?_)
                  refine g_iload (n := 86) hx 0 (dq tX10_stood 44 rfl) rfl rfl ?_
                  refine g_iadd (n := 87) hx (dq tX10_stood 45 rfl) rfl ?_
                  refine g_bald (n := 88) (q := ((M 229 38) + i_46).toNat) hx (aX10_48 (b := 229) (by decide)) (dq tX10_stood 46 rfl) rfl (by omega) (by omega) (by omega) rfl (fun h_65l h_65u => ?_)
                  have h_65l : (-128) ≤ M (229 + 37) (((M 229 38) + i_46).toNat) := h_65l
                  have h_65u : M (229 + 37) (((M 229 38) + i_46).toNat) ≤ 127 := h_65u
                  refine g_aload_nS (n := 89) hx 4 (dq tX10_stood 47 rfl) rfl rfl ?_
                  refine g_iload (n := 91) hx 0 (dq tX10_stood 48 rfl) rfl rfl ?_
                  refine g_callSt (n := 94) (As := [vI i_46]) (rest := [vI (M (229 + 37) (((M 229 38) + i_46).toNat))]) hx (ctJ0_charAt_5068e Γ M w _ hw i_46 (by omega) (by omega)) mlX10_264 rfl hw (dq tX10_stood 49 rfl) rfl (Nat.le_of_ble_eq_true rfl) (Nat.le_of_ble_eq_true rfl) (Nat.le_of_ble_eq_true rfl) rfl (fun z_66 M_67 h_68 p_69 => ?_)
                  obtain ⟨rfl, h_701, h_702⟩ := p_69
                  refine g_icmp_ne (n := 97) (t := 101) hx (dq tX10_stood 50 rfl) (by decide) rfl (zrI h_65l h_65u (by decide) (by decide)) h_68 (fun c_71 => ?_) (fun c_71 => ?_)
                  · refine g_iconst (n := 102) hx (dq tX10_stood 53 rfl) rfl ?_
                    refine g_istore_n (n := 103) (lv' := [(3, vI 0), (4, vI i_46), (2, vI i_2), (0, aR Γ 229), (1, sR Γ w)]) hx (dq tX10_stood 54 rfl) (by decide) rfl rfl ?_
                    refine g_iinc (n := 106) (lv' := [(4, vI (i_46 + 1)), (3, vI 0), (2, vI i_2), (0, aR Γ 229), (1, sR Γ w)]) hx 1 (dq tX10_stood 55 rfl) rfl (by decide) rfl rfl ?_
                    refine g_goto (n := 63) hx (dq tX10_stood 56 rfl) (by decide) ?_
                    exact ih_49 _ (by omega) (i_46 + 1) 0 (by omega) (by omega) (by omega) (by omega) (by first | assumption | omega) rfl
                  · refine g_iconst (n := 98) hx (dq tX10_stood 51 rfl) rfl ?_
                    refine g_goto (n := 102) hx (dq tX10_stood 52 rfl) (by decide) ?_
                    refine g_istore_n (n := 103) (lv' := [(3, vI 1), (4, vI i_46), (2, vI i_2), (0, aR Γ 229), (1, sR Γ w)]) hx (dq tX10_stood 54 rfl) (by decide) rfl rfl ?_
                    refine g_iinc (n := 106) (lv' := [(4, vI (i_46 + 1)), (3, vI 1), (2, vI i_2), (0, aR Γ 229), (1, sR Γ w)]) hx 1 (dq tX10_stood 55 rfl) rfl (by decide) rfl rfl ?_
                    refine g_goto (n := 63) hx (dq tX10_stood 56 rfl) (by decide) ?_
                    exact ih_49 _ (by omega) (i_46 + 1) 1 (by omega) (by omega) (by omega) (by omega) (by first | assumption | omega) rfl
          exact L_48 _ 0 1 (by omega) (by omega) (by omega) (by omega) (by first | assumption | omega) rfl
      · refine g_aload_n (n := 14) hx 1 (dq tX10_stood 7 rfl) rfl rfl ?_
        refine g_getR (n := 17) hx glX10_122 (sX10_48 (by decide)) (dq tX10_stood 8 rfl) rfl ?_
        refine g_iload_n (n := 18) hx 0 (dq tX10_stood 9 rfl) rfl rfl ?_
        refine g_bald (n := 19) (q := i_2.toNat) hx (aX10_48 (b := 229) (by decide)) (dq tX10_stood 10 rfl) rfl (by omega) (by omega) (by omega) rfl (fun h_72l h_72u => ?_)
        have h_72l : (-128) ≤ M (229 + 37) i_2.toNat := h_72l
        have h_72u : M (229 + 37) i_2.toNat ≤ 127 := h_72u
        refine g_bipush (n := 21) hx (dq tX10_stood 11 rfl) rfl (by decide) ?_
        refine g_icmp_lt (n := 24) (t := 41) hx (dq tX10_stood 12 rfl) (by decide) rfl (zrI h_72l h_72u (by decide) (by decide)) ⟨by decide, by decide⟩ (fun c_73 => ?_) (fun c_73 => ?_)
        · refine g_iload_n (n := 42) hx 0 (dq tX10_stood 21 rfl) rfl rfl ?_
          refine g_aload_n (n := 43) hx 1 (dq tX10_stood 22 rfl) rfl rfl ?_
          refine g_getI (n := 46) hx glX10_249 (sX10_38 (by decide)) (dq tX10_stood 23 rfl) rfl (fun h_74l h_74u => ?_)
          refine g_isub (n := 47) hx (dq tX10_stood 24 rfl) rfl ?_
          refine g_aload_nS (n := 48) hx 2 (dq tX10_stood 25 rfl) rfl rfl ?_
          refine g_callSt (n := 51) (As := []) (rest := [vI (i_2 - (M 229 38))]) hx (ctJ0_length_8abf5 Γ M w _ hw) mlX10_260 rfl hw (dq tX10_stood 26 rfl) rfl (Nat.le_of_ble_eq_true rfl) (Nat.le_of_ble_eq_true rfl) (Nat.le_of_ble_eq_true rfl) rfl (fun z_75 M_76 h_77 p_78 => ?_)
          obtain ⟨rfl, h_79⟩ := p_78
          refine g_icmp_ne (n := 54) (t := 58) hx (dq tX10_stood 27 rfl) (by decide) rfl ⟨by omega, by omega⟩ h_77 (fun c_80 => ?_) (fun c_80 => ?_)
          · refine g_iconst (n := 59) hx (dq tX10_stood 30 rfl) rfl ?_
            refine g_istore_n (n := 60) (lv' := [(3, vI 0), (2, vI i_2), (0, aR Γ 229), (1, sR Γ w)]) hx (dq tX10_stood 31 rfl) (by decide) rfl rfl ?_
            refine g_iconst (n := 61) hx (dq tX10_stood 32 rfl) rfl ?_
            refine g_istore (n := 63) (lv' := [(4, vI 0), (3, vI 0), (2, vI i_2), (0, aR Γ 229), (1, sR Γ w)]) hx (dq tX10_stood 33 rfl) (by decide) rfl rfl ?_
            have L_83 : ∀ (n_ : Nat) (i_81 : Int) (i_82 : Int), (0 ≤ i_81) → (i_81 ≤ 100) → (0 ≤ i_82) → (i_82 ≤ 1) → ((i_82 = 0 ∨ i_2 - M 229 38 = sln w)) → ((100 - i_81).toNat = n_) → G Γ x 5 (QI Γ x (qctX10_stood M w)) M 63 [(4, vI i_81), (3, vI i_82), (2, vI i_2), (0, aR Γ 229), (1, sR Γ w)] [] := by
              intro n_
              induction n_ using Nat.strongRecOn with
              | _ n_ ih_84 =>
                intro i_81 i_82 h_88 h_89 h_90 h_91 h_87 hm_86
                refine g_iload (n := 65) hx 0 (dq tX10_stood 34 rfl) rfl rfl ?_
                refine g_aload_nS (n := 66) hx 4 (dq tX10_stood 35 rfl) rfl rfl ?_
                refine g_callSt (n := 69) (As := []) (rest := [vI i_81]) hx (ctJ0_length_8abf5 Γ M w _ hw) mlX10_260 rfl hw (dq tX10_stood 36 rfl) rfl (Nat.le_of_ble_eq_true rfl) (Nat.le_of_ble_eq_true rfl) (Nat.le_of_ble_eq_true rfl) rfl (fun z_92 M_93 h_94 p_95 => ?_)
                obtain ⟨rfl, h_96⟩ := p_95
                refine g_icmp_ge (n := 72) (t := 109) hx (dq tX10_stood 37 rfl) (by decide) rfl ⟨by omega, by omega⟩ h_94 (fun c_97 => ?_) (fun c_97 => ?_)
                · refine g_iload_n (n := 110) hx 1 (dq tX10_stood 57 rfl) rfl rfl ?_
                  exact g_zret hx hr (dq tX10_stood 58 rfl) (by omega) ⟨rfl, (by omega)⟩
                · refine g_iload_n (n := 73) hx 1 (dq tX10_stood 38 rfl) rfl rfl ?_
                  refine g_if_eq (n := 76) (t := 109) hx (dq tX10_stood 39 rfl) (by decide) rfl ⟨by omega, by omega⟩ (fun c_98 => ?_) (fun c_98 => ?_)
                  · refine g_iload_n (n := 110) hx 1 (dq tX10_stood 57 rfl) rfl rfl ?_
                    exact g_zret hx hr (dq tX10_stood 58 rfl) (by omega) ⟨rfl, (by omega)⟩
                  · refine g_aload_n (n := 77) hx 3 (dq tX10_stood 40 rfl) rfl rfl ?_
                    refine g_getR (n := 80) hx glX10_122 (sX10_48 (by decide)) (dq tX10_stood 41 rfl) rfl ?_
                    refine g_aload_n (n := 81) hx 3 (dq tX10_stood 42 rfl) rfl rfl ?_
                    refine g_getI (n := 84) hx glX10_249 (sX10_38 (by decide)) (dq tX10_stood 43 rfl) rfl (fun h_99l h_99u => ?_)
                    refine g_iload (n := 86) hx 0 (dq tX10_stood 44 rfl) rfl rfl ?_
                    refine g_iadd (n := 87) hx (dq tX10_stood 45 rfl) rfl ?_
                    refine g_bald (n := 88) (q := ((M 229 38) + i_81).toNat) hx (aX10_48 (b := 229) (by decide)) (dq tX10_stood 46 rfl) rfl (by omega) (by omega) (by omega) rfl (fun h_100l h_100u => ?_)
                    have h_100l : (-128) ≤ M (229 + 37) (((M 229 38) + i_81).toNat) := h_100l
                    have h_100u : M (229 + 37) (((M 229 38) + i_81).toNat) ≤ 127 := h_100u
                    refine g_aload_nS (n := 89) hx 4 (dq tX10_stood 47 rfl) rfl rfl ?_
                    refine g_iload (n := 91) hx 0 (dq tX10_stood 48 rfl) rfl rfl ?_
                    refine g_callSt (n := 94) (As := [vI i_81]) (rest := [vI (M (229 + 37) (((M 229 38) + i_81).toNat))]) hx (ctJ0_charAt_5068e Γ M w _ hw i_81 (by omega) (by omega)) mlX10_264 rfl hw (dq tX10_stood 49 rfl) rfl (Nat.le_of_ble_eq_true rfl) (Nat.le_of_ble_eq_true rfl) (Nat.le_of_ble_eq_true rfl) rfl (fun z_101 M_102 h_103 p_104 => ?_)
                    obtain ⟨rfl, h_1051, h_1052⟩ := p_104
                    refine g_icmp_ne (n := 97) (t := 101) hx (dq tX10_stood 50 rfl) (by decide) rfl (zrI h_100l h_100u (by decide) (by decide)) h_103 (fun c_106 => ?_) (fun c_106 => ?_)
                    · refine g_iconst (n := 102) hx (dq tX10_stood 53 rfl) rfl ?_
                      refine g_istore_n (n := 103) (lv' := [(3, vI 0), (4, vI i_81), (2, vI i_2), (0, aR Γ 229), (1, sR Γ w)]) hx (dq tX10_stood 54 rfl) (by decide) rfl rfl ?_
                      refine g_iinc (n := 106) (lv' := [(4, vI (i_81 + 1)), (3, vI 0), (2, vI i_2), (0, aR Γ 229), (1, sR Γ w)]) hx 1 (dq tX10_stood 55 rfl) rfl (by decide) rfl rfl ?_
                      refine g_goto (n := 63) hx (dq tX10_stood 56 rfl) (by decide) ?_
                      exact ih_84 _ (by omega) (i_81 + 1) 0 (by omega) (by omega) (by omega) (by omega) (by first | assumption | omega) rfl
                    · refine g_iconst (n := 98) hx (dq tX10_stood 51 rfl) rfl ?_
                      refine g_goto (n := 102) hx (dq tX10_stood 52 rfl) (by decide) ?_
                      refine g_istore_n (n := 103) (lv' := [(3, vI 1), (4, vI i_81), (2, vI i_2), (0, aR Γ 229), (1, sR Γ w)]) hx (dq tX10_stood 54 rfl) (by decide) rfl rfl ?_
                      refine g_iinc (n := 106) (lv' := [(4, vI (i_81 + 1)), (3, vI 1), (2, vI i_2), (0, aR Γ 229), (1, sR Γ w)]) hx 1 (dq tX10_stood 55 rfl) rfl (by decide) rfl rfl ?_
                      refine g_goto (n := 63) hx (dq tX10_stood 56 rfl) (by decide) ?_
                      exact ih_84 _ (by omega) (i_81 + 1) 1 (by omega) (by omega) (by omega) (by omega) (by first | assumption | omega) rfl
            exact L_83 _ 0 0 (by omega) (by omega) (by omega) (by omega) (by first | assumption | omega) rfl
          · refine g_iconst (n := 55) hx (dq tX10_stood 28 rfl) rfl ?_
            refine g_goto (n := 59) hx (dq tX10_stood 29 rfl) (by decide) ?_
            refine g_istore_n (n := 60) (lv' := [(3, vI 1), (2, vI i_2), (0, aR Γ 229), (1, sR Γ w)]) hx (dq tX10_stood 31 rfl) (by decide) rfl rfl ?_
            refine g_iconst (n := 61) hx (dq tX10_stood 32 rfl) rfl ?_
            refine g_istore (n := 63) (lv' := [(4, vI 0), (3, vI 1), (2, vI i_2), (0, aR Γ 229), (1, sR Γ w)]) hx (dq tX10_stood 33 rfl) (by decide) rfl rfl ?_
            have L_109 : ∀ (n_ : Nat) (i_107 : Int) (i_108 : Int), (0 ≤ i_107) → (i_107 ≤ 100) → (0 ≤ i_108) → (i_108 ≤ 1) → ((i_108 = 0 ∨ i_2 - M 229 38 = sln w)) → ((100 - i_107).toNat = n_) → G Γ x 5 (QI Γ x (qctX10_stood M w)) M 63 [(4, vI i_107), (3, vI i_108), (2, vI i_2), (0, aR Γ 229), (1, sR Γ w)] [] := by
              intro n_
              induction n_ using Nat.strongRecOn with
              | _ n_ ih_110 =>
                intro i_107 i_108 h_114 h_115 h_116 h_117 h_113 hm_112
                refine g_iload (n := 65) hx 0 (dq tX10_stood 34 rfl) rfl rfl ?_
                refine g_aload_nS (n := 66) hx 4 (dq tX10_stood 35 rfl) rfl rfl ?_
                refine g_callSt (n := 69) (As := []) (rest := [vI i_107]) hx (ctJ0_length_8abf5 Γ M w _ hw) mlX10_260 rfl hw (dq tX10_stood 36 rfl) rfl (Nat.le_of_ble_eq_true rfl) (Nat.le_of_ble_eq_true rfl) (Nat.le_of_ble_eq_true rfl) rfl (fun z_118 M_119 h_120 p_121 => ?_)
                obtain ⟨rfl, h_122⟩ := p_121
                refine g_icmp_ge (n := 72) (t := 109) hx (dq tX10_stood 37 rfl) (by decide) rfl ⟨by omega, by omega⟩ h_120 (fun c_123 => ?_) (fun c_123 => ?_)
                · refine g_iload_n (n := 110) hx 1 (dq tX10_stood 57 rfl) rfl rfl ?_
                  exact g_zret hx hr (dq tX10_stood 58 rfl) (by omega) ⟨rfl, (by omega)⟩
                · refine g_iload_n (n := 73) hx 1 (dq tX10_stood 38 rfl) rfl rfl ?_
                  refine g_if_eq (n := 76) (t := 109) hx (dq tX10_stood 39 rfl) (by decide) rfl ⟨by omega, by omega⟩ (fun c_124 => ?_) (fun c_124 => ?_)
                  · refine g_iload_n (n := 110) hx 1 (dq tX10_stood 57 rfl) rfl rfl ?_
                    exact g_zret hx hr (dq tX10_stood 58 rfl) (by omega) ⟨rfl, (by omega)⟩
                  · refine g_aload_n (n := 77) hx 3 (dq tX10_stood 40 rfl) rfl rfl ?_
                    refine g_getR (n := 80) hx glX10_122 (sX10_48 (by decide)) (dq tX10_stood 41 rfl) rfl ?_
                    refine g_aload_n (n := 81) hx 3 (dq tX10_stood 42 rfl) rfl rfl ?_
                    refine g_getI (n := 84) hx glX10_249 (sX10_38 (by decide)) (dq tX10_stood 43 rfl) rfl (fun h_125l h_125u => ?_)
                    refine g_iload (n := 86) hx 0 (dq tX10_stood 44 rfl) rfl rfl ?_
                    refine g_iadd (n := 87) hx (dq tX10_stood 45 rfl) rfl ?_
                    refine g_bald (n := 88) (q := ((M 229 38) + i_107).toNat) hx (aX10_48 (b := 229) (by decide)) (dq tX10_stood 46 rfl) rfl (by omega) (by omega) (by omega) rfl (fun h_126l h_126u => ?_)
                    have h_126l : (-128) ≤ M (229 + 37) (((M 229 38) + i_107).toNat) := h_126l
                    have h_126u : M (229 + 37) (((M 229 38) + i_107).toNat) ≤ 127 := h_126u
                    refine g_aload_nS (n := 89) hx 4 (dq tX10_stood 47 rfl) rfl rfl ?_
                    refine g_iload (n := 91) hx 0 (dq tX10_stood 48 rfl) rfl rfl ?_
                    refine g_callSt (n := 94) (As := [vI i_107]) (rest := [vI (M (229 + 37) (((M 229 38) + i_107).toNat))]) hx (ctJ0_charAt_5068e Γ M w _ hw i_107 (by omega) (by omega)) mlX10_264 rfl hw (dq tX10_stood 49 rfl) rfl (Nat.le_of_ble_eq_true rfl) (Nat.le_of_ble_eq_true rfl) (Nat.le_of_ble_eq_true rfl) rfl (fun z_127 M_128 h_129 p_130 => ?_)
                    obtain ⟨rfl, h_1311, h_1312⟩ := p_130
                    refine g_icmp_ne (n := 97) (t := 101) hx (dq tX10_stood 50 rfl) (by decide) rfl (zrI h_126l h_126u (by decide) (by decide)) h_129 (fun c_132 => ?_) (fun c_132 => ?_)
                    · refine g_iconst (n := 102) hx (dq tX10_stood 53 rfl) rfl ?_
                      refine g_istore_n (n := 103) (lv' := [(3, vI 0), (4, vI i_107), (2, vI i_2), (0, aR Γ 229), (1, sR Γ w)]) hx (dq tX10_stood 54 rfl) (by decide) rfl rfl ?_
                      refine g_iinc (n := 106) (lv' := [(4, vI (i_107 + 1)), (3, vI 0), (2, vI i_2), (0, aR Γ 229), (1, sR Γ w)]) hx 1 (dq tX10_stood 55 rfl) rfl (by decide) rfl rfl ?_
                      refine g_goto (n := 63) hx (dq tX10_stood 56 rfl) (by decide) ?_
                      exact ih_110 _ (by omega) (i_107 + 1) 0 (by omega) (by omega) (by omega) (by omega) (by first | assumption | omega) rfl
                    · refine g_iconst (n := 98) hx (dq tX10_stood 51 rfl) rfl ?_
                      refine g_goto (n := 102) hx (dq tX10_stood 52 rfl) (by decide) ?_
                      refine g_istore_n (n := 103) (lv' := [(3, vI 1), (4, vI i_107), (2, vI i_2), (0, aR Γ 229), (1, sR Γ w)]) hx (dq tX10_stood 54 rfl) (by decide) rfl rfl ?_
                      refine g_iinc (n := 106) (lv' := [(4, vI (i_107 + 1)), (3, vI 1), (2, vI i_2), (0, aR Γ 229), (1, sR Γ w)]) hx 1 (dq tX10_stood 55 rfl) rfl (by decide) rfl rfl ?_
                      refine g_goto (n := 63) hx (dq tX10_stood 56 rfl) (by decide) ?_
                      exact ih_110 _ (by omega) (i_107 + 1) 1 (by omega) (by omega) (by omega) (by omega) (by first | assumption | omega) rfl
            exact L_109 _ 0 1 (by omega) (by omega) (by omega) (by omega) (by first | assumption | omega) rfl
        · refine g_aload_n (n := 25) hx 1 (dq tX10_stood 13 rfl) rfl rfl ?_
          refine g_getR (n := 28) hx glX10_122 (sX10_48 (by decide)) (dq tX10_stood 14 rfl) rfl ?_
          refine g_iload_n (n := 29) hx 0 (dq tX10_stood 15 rfl) rfl rfl ?_
          refine g_bald (n := 30) (q := i_2.toNat) hx (aX10_48 (b := 229) (by decide)) (dq tX10_stood 16 rfl) rfl (by omega) (by omega) (by omega) rfl (fun h_133l h_133u => ?_)
          have h_133l : (-128) ≤ M (229 + 37) i_2.toNat := h_133l
          have h_133u : M (229 + 37) i_2.toNat ≤ 127 := h_133u
          refine g_bipush (n := 32) hx (dq tX10_stood 17 rfl) rfl (by decide) ?_
          refine g_icmp_gt (n := 35) (t := 41) hx (dq tX10_stood 18 rfl) (by decide) rfl (zrI h_133l h_133u (by decide) (by decide)) ⟨by decide, by decide⟩ (fun c_134 => ?_) (fun c_134 => ?_)
          · refine g_iload_n (n := 42) hx 0 (dq tX10_stood 21 rfl) rfl rfl ?_
            refine g_aload_n (n := 43) hx 1 (dq tX10_stood 22 rfl) rfl rfl ?_
            refine g_getI (n := 46) hx glX10_249 (sX10_38 (by decide)) (dq tX10_stood 23 rfl) rfl (fun h_135l h_135u => ?_)
            refine g_isub (n := 47) hx (dq tX10_stood 24 rfl) rfl ?_
            refine g_aload_nS (n := 48) hx 2 (dq tX10_stood 25 rfl) rfl rfl ?_
            refine g_callSt (n := 51) (As := []) (rest := [vI (i_2 - (M 229 38))]) hx (ctJ0_length_8abf5 Γ M w _ hw) mlX10_260 rfl hw (dq tX10_stood 26 rfl) rfl (Nat.le_of_ble_eq_true rfl) (Nat.le_of_ble_eq_true rfl) (Nat.le_of_ble_eq_true rfl) rfl (fun z_136 M_137 h_138 p_139 => ?_)
            obtain ⟨rfl, h_140⟩ := p_139
            refine g_icmp_ne (n := 54) (t := 58) hx (dq tX10_stood 27 rfl) (by decide) rfl ⟨by omega, by omega⟩ h_138 (fun c_141 => ?_) (fun c_141 => ?_)
            · refine g_iconst (n := 59) hx (dq tX10_stood 30 rfl) rfl ?_
              refine g_istore_n (n := 60) (lv' := [(3, vI 0), (2, vI i_2), (0, aR Γ 229), (1, sR Γ w)]) hx (dq tX10_stood 31 rfl) (by decide) rfl rfl ?_
              refine g_iconst (n := 61) hx (dq tX10_stood 32 rfl) rfl ?_
              refine g_istore (n := 63) (lv' := [(4, vI 0), (3, vI 0), (2, vI i_2), (0, aR Γ 229), (1, sR Γ w)]) hx (dq tX10_stood 33 rfl) (by decide) rfl rfl ?_
              have L_144 : ∀ (n_ : Nat) (i_142 : Int) (i_143 : Int), (0 ≤ i_142) → (i_142 ≤ 100) → (0 ≤ i_143) → (i_143 ≤ 1) → ((i_143 = 0 ∨ i_2 - M 229 38 = sln w)) → ((100 - i_142).toNat = n_) → G Γ x 5 (QI Γ x (qctX10_stood M w)) M 63 [(4, vI i_142), (3, vI i_143), (2, vI i_2), (0, aR Γ 229), (1, sR Γ w)] [] := by
                intro n_
                induction n_ using Nat.strongRecOn with
                | _ n_ ih_145 =>
                  intro i_142 i_143 h_149 h_150 h_151 h_152 h_148 hm_147
                  refine g_iload (n := 65) hx 0 (dq tX10_stood 34 rfl) rfl rfl ?_
                  refine g_aload_nS (n := 66) hx 4 (dq tX10_stood 35 rfl) rfl rfl ?_
                  refine g_callSt (n := 69) (As := []) (rest := [vI i_142]) hx (ctJ0_length_8abf5 Γ M w _ hw) mlX10_260 rfl hw (dq tX10_stood 36 rfl) rfl (Nat.le_of_ble_eq_true rfl) (Nat.le_of_ble_eq_true rfl) (Nat.le_of_ble_eq_true rfl) rfl (fun z_153 M_154 h_155 p_156 => ?_)
                  obtain ⟨rfl, h_157⟩ := p_156
                  refine g_icmp_ge (n := 72) (t := 109) hx (dq tX10_stood 37 rfl) (by decide) rfl ⟨by omega, by omega⟩ h_155 (fun c_158 => ?_) (fun c_158 => ?_)
                  · refine g_iload_n (n := 110) hx 1 (dq tX10_stood 57 rfl) rfl rfl ?_
                    exact g_zret hx hr (dq tX10_stood 58 rfl) (by omega) ⟨rfl, (by omega)⟩
                  · refine g_iload_n (n := 73) hx 1 (dq tX10_stood 38 rfl) rfl rfl ?_
                    refine g_if_eq (n := 76) (t := 109) hx (dq tX10_stood 39 rfl) (by decide) rfl ⟨by omega, by omega⟩ (fun c_159 => ?_) (fun c_159 => ?_)
                    · refine g_iload_n (n := 110) hx 1 (dq tX10_stood 57 rfl) rfl rfl ?_
                      exact g_zret hx hr (dq tX10_stood 58 rfl) (by omega) ⟨rfl, (by omega)⟩
                    · refine g_aload_n (n := 77) hx 3 (dq tX10_stood 40 rfl) rfl rfl ?_
                      refine g_getR (n := 80) hx glX10_122 (sX10_48 (by decide)) (dq tX10_stood 41 rfl) rfl ?_
                      refine g_aload_n (n := 81) hx 3 (dq tX10_stood 42 rfl) rfl rfl ?_
                      refine g_getI (n := 84) hx glX10_249 (sX10_38 (by decide)) (dq tX10_stood 43 rfl) rfl (fun h_160l h_160u => ?_)
                      refine g_iload (n := 86) hx 0 (dq tX10_stood 44 rfl) rfl rfl ?_
                      refine g_iadd (n := 87) hx (dq tX10_stood 45 rfl) rfl ?_
                      refine g_bald (n := 88) (q := ((M 229 38) + i_142).toNat) hx (aX10_48 (b := 229) (by decide)) (dq tX10_stood 46 rfl) rfl (by omega) (by omega) (by omega) rfl (fun h_161l h_161u => ?_)
                      have h_161l : (-128) ≤ M (229 + 37) (((M 229 38) + i_142).toNat) := h_161l
                      have h_161u : M (229 + 37) (((M 229 38) + i_142).toNat) ≤ 127 := h_161u
                      refine g_aload_nS (n := 89) hx 4 (dq tX10_stood 47 rfl) rfl rfl ?_
                      refine g_iload (n := 91) hx 0 (dq tX10_stood 48 rfl) rfl rfl ?_
                      refine g_callSt (n := 94) (As := [vI i_142]) (rest := [vI (M (229 + 37) (((M 229 38) + i_142).toNat))]) hx (ctJ0_charAt_5068e Γ M w _ hw i_142 (by omega) (by omega)) mlX10_264 rfl hw (dq tX10_stood 49 rfl) rfl (Nat.le_of_ble_eq_true rfl) (Nat.le_of_ble_eq_true rfl) (Nat.le_of_ble_eq_true rfl) rfl (fun z_162 M_163 h_164 p_165 => ?_)
                      obtain ⟨rfl, h_1661, h_1662⟩ := p_165
                      refine g_icmp_ne (n := 97) (t := 101) hx (dq tX10_stood 50 rfl) (by decide) rfl (zrI h_161l h_161u (by decide) (by decide)) h_164 (fun c_167 => ?_) (fun c_167 => ?_)
                      · refine g_iconst (n := 102) hx (dq tX10_stood 53 rfl) rfl ?_
                        refine g_istore_n (n := 103) (lv' := [(3, vI 0), (4, vI i_142), (2, vI i_2), (0, aR Γ 229), (1, sR Γ w)]) hx (dq tX10_stood 54 rfl) (by decide) rfl rfl ?_
                        refine g_iinc (n := 106) (lv' := [(4, vI (i_142 + 1)), (3, vI 0), (2, vI i_2), (0, aR Γ 229), (1, sR Γ w)]) hx 1 (dq tX10_stood 55 rfl) rfl (by decide) rfl rfl ?_
                        refine g_goto (n := 63) hx (dq tX10_stood 56 rfl) (by decide) ?_
                        exact ih_145 _ (by omega) (i_142 + 1) 0 (by omega) (by omega) (by omega) (by omega) (by first | assumption | omega) rfl
                      · refine g_iconst (n := 98) hx (dq tX10_stood 51 rfl) rfl ?_
                        refine g_goto (n := 102) hx (dq tX10_stood 52 rfl) (by decide) ?_
                        refine g_istore_n (n := 103) (lv' := [(3, vI 1), (4, vI i_142), (2, vI i_2), (0, aR Γ 229), (1, sR Γ w)]) hx (dq tX10_stood 54 rfl) (by decide) rfl rfl ?_
                        refine g_iinc (n := 106) (lv' := [(4, vI (i_142 + 1)), (3, vI 1), (2, vI i_2), (0, aR Γ 229), (1, sR Γ w)]) hx 1 (dq tX10_stood 55 rfl) rfl (by decide) rfl rfl ?_
                        refine g_goto (n := 63) hx (dq tX10_stood 56 rfl) (by decide) ?_
                        exact ih_145 _ (by omega) (i_142 + 1) 1 (by omega) (by omega) (by omega) (by omega) (by first | assumption | omega) rfl
              exact L_144 _ 0 0 (by omega) (by omega) (by omega) (by omega) (by first | assumption | omega) rfl
            · refine g_iconst (n := 55) hx (dq tX10_stood 28 rfl) rfl ?_
              refine g_goto (n := 59) hx (dq tX10_stood 29 rfl) (by decide) ?_
              refine g_istore_n (n := 60) (lv' := [(3, vI 1), (2, vI i_2), (0, aR Γ 229), (1, sR Γ w)]) hx (dq tX10_stood 31 rfl) (by decide) rfl rfl ?_
              refine g_iconst (n := 61) hx (dq tX10_stood 32 rfl) rfl ?_
              refine g_istore (n := 63) (lv' := [(4, vI 0), (3, vI 1), (2, vI i_2), (0, aR Γ 229), (1, sR Γ w)]) hx (dq tX10_stood 33 rfl) (by decide) rfl rfl ?_
              have L_170 : ∀ (n_ : Nat) (i_168 : Int) (i_169 : Int), (0 ≤ i_168) → (i_168 ≤ 100) → (0 ≤ i_169) → (i_169 ≤ 1) → ((i_169 = 0 ∨ i_2 - M 229 38 = sln w)) → ((100 - i_168).toNat = n_) → G Γ x 5 (QI Γ x (qctX10_stood M w)) M 63 [(4, vI i_168), (3, vI i_169), (2, vI i_2), (0, aR Γ 229), (1, sR Γ w)] [] := by
                intro n_
                induction n_ using Nat.strongRecOn with
                | _ n_ ih_171 =>
                  intro i_168 i_169 h_175 h_176 h_177 h_178 h_174 hm_173
                  refine g_iload (n := 65) hx 0 (dq tX10_stood 34 rfl) rfl rfl ?_
                  refine g_aload_nS (n := 66) hx 4 (dq tX10_stood 35 rfl) rfl rfl ?_
                  refine g_callSt (n := 69) (As := []) (rest := [vI i_168]) hx (ctJ0_length_8abf5 Γ M w _ hw) mlX10_260 rfl hw (dq tX10_stood 36 rfl) rfl (Nat.le_of_ble_eq_true rfl) (Nat.le_of_ble_eq_true rfl) (Nat.le_of_ble_eq_true rfl) rfl (fun z_179 M_180 h_181 p_182 => ?_)
                  obtain ⟨rfl, h_183⟩ := p_182
                  refine g_icmp_ge (n := 72) (t := 109) hx (dq tX10_stood 37 rfl) (by decide) rfl ⟨by omega, by omega⟩ h_181 (fun c_184 => ?_) (fun c_184 => ?_)
                  · refine g_iload_n (n := 110) hx 1 (dq tX10_stood 57 rfl) rfl rfl ?_
                    exact g_zret hx hr (dq tX10_stood 58 rfl) (by omega) ⟨rfl, (by omega)⟩
                  · refine g_iload_n (n := 73) hx 1 (dq tX10_stood 38 rfl) rfl rfl ?_
                    refine g_if_eq (n := 76) (t := 109) hx (dq tX10_stood 39 rfl) (by decide) rfl ⟨by omega, by omega⟩ (fun c_185 => ?_) (fun c_185 => ?_)
                    · refine g_iload_n (n := 110) hx 1 (dq tX10_stood 57 rfl) rfl rfl ?_
                      exact g_zret hx hr (dq tX10_stood 58 rfl) (by omega) ⟨rfl, (by omega)⟩
                    · refine g_aload_n (n := 77) hx 3 (dq tX10_stood 40 rfl) rfl rfl ?_
                      refine g_getR (n := 80) hx glX10_122 (sX10_48 (by decide)) (dq tX10_stood 41 rfl) rfl ?_
                      refine g_aload_n (n := 81) hx 3 (dq tX10_stood 42 rfl) rfl rfl ?_
                      refine g_getI (n := 84) hx glX10_249 (sX10_38 (by decide)) (dq tX10_stood 43 rfl) rfl (fun h_186l h_186u => ?_)
                      refine g_iload (n := 86) hx 0 (dq tX10_stood 44 rfl) rfl rfl ?_
                      refine g_iadd (n := 87) hx (dq tX10_stood 45 rfl) rfl ?_
                      refine g_bald (n := 88) (q := ((M 229 38) + i_168).toNat) hx (aX10_48 (b := 229) (by decide)) (dq tX10_stood 46 rfl) rfl (by omega) (by omega) (by omega) rfl (fun h_187l h_187u => ?_)
                      have h_187l : (-128) ≤ M (229 + 37) (((M 229 38) + i_168).toNat) := h_187l
                      have h_187u : M (229 + 37) (((M 229 38) + i_168).toNat) ≤ 127 := h_187u
                      refine g_aload_nS (n := 89) hx 4 (dq tX10_stood 47 rfl) rfl rfl ?_
                      refine g_iload (n := 91) hx 0 (dq tX10_stood 48 rfl) rfl rfl ?_
                      refine g_callSt (n := 94) (As := [vI i_168]) (rest := [vI (M (229 + 37) (((M 229 38) + i_168).toNat))]) hx (ctJ0_charAt_5068e Γ M w _ hw i_168 (by omega) (by omega)) mlX10_264 rfl hw (dq tX10_stood 49 rfl) rfl (Nat.le_of_ble_eq_true rfl) (Nat.le_of_ble_eq_true rfl) (Nat.le_of_ble_eq_true rfl) rfl (fun z_188 M_189 h_190 p_191 => ?_)
                      obtain ⟨rfl, h_1921, h_1922⟩ := p_191
                      refine g_icmp_ne (n := 97) (t := 101) hx (dq tX10_stood 50 rfl) (by decide) rfl (zrI h_187l h_187u (by decide) (by decide)) h_190 (fun c_193 => ?_) (fun c_193 => ?_)
                      · refine g_iconst (n := 102) hx (dq tX10_stood 53 rfl) rfl ?_
                        refine g_istore_n (n := 103) (lv' := [(3, vI 0), (4, vI i_168), (2, vI i_2), (0, aR Γ 229), (1, sR Γ w)]) hx (dq tX10_stood 54 rfl) (by decide) rfl rfl ?_
                        refine g_iinc (n := 106) (lv' := [(4, vI (i_168 + 1)), (3, vI 0), (2, vI i_2), (0, aR Γ 229), (1, sR Γ w)]) hx 1 (dq tX10_stood 55 rfl) rfl (by decide) rfl rfl ?_
                        refine g_goto (n := 63) hx (dq tX10_stood 56 rfl) (by decide) ?_
                        exact ih_171 _ (by omega) (i_168 + 1) 0 (by omega) (by omega) (by omega) (by omega) (by first | assumption | omega) rfl
                      · refine g_iconst (n := 98) hx (dq tX10_stood 51 rfl) rfl ?_
                        refine g_goto (n := 102) hx (dq tX10_stood 52 rfl) (by decide) ?_
                        refine g_istore_n (n := 103) (lv' := [(3, vI 1), (4, vI i_168), (2, vI i_2), (0, aR Γ 229), (1, sR Γ w)]) hx (dq tX10_stood 54 rfl) (by decide) rfl rfl ?_
                        refine g_iinc (n := 106) (lv' := [(4, vI (i_168 + 1)), (3, vI 1), (2, vI i_2), (0, aR Γ 229), (1, sR Γ w)]) hx 1 (dq tX10_stood 55 rfl) rfl (by decide) rfl rfl ?_
                        refine g_goto (n := 63) hx (dq tX10_stood 56 rfl) (by decide) ?_
                        exact ih_171 _ (by omega) (i_168 + 1) 1 (by omega) (by omega) (by omega) (by omega) (by first | assumption | omega) rfl
              exact L_170 _ 0 1 (by omega) (by omega) (by omega) (by omega) (by first | assumption | omega) rfl
          · refine g_iinc (n := 38) (lv' := [(2, vI (i_2 + 1)), (0, aR Γ 229), (1, sR Γ w)]) hx 0 (dq tX10_stood 19 rfl) rfl (by decide) rfl rfl ?_
            refine g_goto (n := 5) hx (dq tX10_stood 20 rfl) (by decide) ?_
            exact ih_4 _ (by omega) (i_2 + 1) (by omega) (by omega) (by first | assumption | omega) (by first | assumption | omega) rfl
  exact L_3 _ (M 229 38) (by omega) (by omega) (by first | assumption | omega) (by first | assumption | omega) rfl
