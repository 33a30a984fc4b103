abbrev qctX7_append2 (M : zM) (number : Int) (t9 : Nat → Int) (n9 : Nat) (M' : zM) : Prop := (∀ u_ v_, (u_ ≠ 7 ∨ v_ ≠ 1) ∧ u_ ≠ 7 + 1 → M' u_ v_ = M u_ v_) ∧ (Tx M' (fd t9 n9 number) (n9 + 4))
set_option maxHeartbeats 4000000 in
set_option maxRecDepth 100000 in
theorem ctX7_append2 (Γ : Gam) (M : zM) (number : Int) (hnumberl : (-2147483648) ≤ number) (hnumberu : number ≤ 2147483647) (t9 : Nat → Int) (n9 : Nat) (pre0 : (n9 : Int) + 4 ≤ 400) (ex0 : Tx M t9 n9) : CtV Γ yX7_append cX7_append 3 none 0 0 [aR Γ 7, vI number] M (qctX7_append2 M number t9 n9) := by
  refine met_v (by decide) (Nat.le_of_ble_eq_true rfl) (fun x hx hr => ?_)
  show G Γ x 3 (QV Γ x (qctX7_append2 M number t9 n9)) M 0 [(0, aR Γ 7), (1, vI number)] []
  have hn9 := ex0.1
  refine g_iv (fun hI0 => ?_)
  have hI_n : (0 : Int) ≤ M 7 1 ∧ M 7 1 ≤ 400 := hI0 7 1
  clear hI0
  refine g_bipush (n := 2) hx (dq tX7_append 0 rfl) rfl (by decide) ?_
  refine g_istore_n (n := 3) (lv' := [(2, vI 24), (0, aR Γ 7), (1, vI number)]) hx (dq tX7_append 1 rfl) (by decide) rfl rfl ?_
  have L_3 : ∀ (n_ : Nat) (i_1 : Int) (M_2 : zM), ((-8) ≤ i_1) → (i_1 ≤ 24) → (∀ u_ v_, (u_ ≠ 7 ∨ v_ ≠ 1) ∧ u_ ≠ 7 + 1 → M_2 u_ v_ = M u_ v_) → (Ta M_2 t9 n9 number i_1) → (8 * M_2 7 1 = 8 * M 7 1 + 24 - i_1) → ((i_1 + 8).toNat = n_) → G Γ x 3 (QV Γ x (qctX7_append2 M number t9 n9)) M_2 3 [(2, vI i_1), (0, aR Γ 7), (1, vI number)] [] := by
    intro n_
    induction n_ using Nat.strongRecOn with
    | _ n_ ih_4 =>
      intro i_1 M_2 h_9 h_10 f_5 h_7 h_8 hm_6
      refine g_iload_n (n := 4) hx 0 (dq tX7_append 2 rfl) rfl rfl ?_
      refine g_if_lt (n := 7) (t := 49) hx (dq tX7_append 3 rfl) (by decide) rfl ⟨by omega, by omega⟩ (fun c_11 => ?_) (fun c_11 => ?_)
      · exact g_vret hx hr (dq tX7_append 26 rfl) ⟨(fun u_ v_ huv_ => (f_5 u_ v_ ⟨huv_.1, huv_.2⟩)), (Ta.fin h_7 (by omega))⟩
      · refine g_aload_n (n := 8) hx 1 (dq tX7_append 4 rfl) rfl rfl ?_
        refine g_getI (n := 11) hx glX7_15 (sX7_1 (by decide)) (dq tX7_append 5 rfl) rfl (fun h_12l h_12u => ?_)
        refine g_sipush (n := 14) hx (dq tX7_append 6 rfl) rfl (by decide) ?_
        refine g_icmp_ge (n := 17) (t := 49) hx (dq tX7_append 7 rfl) (by decide) rfl (zrI h_12l h_12u (by decide) (by decide)) ⟨by decide, by decide⟩ (fun c_13 => ?_) (fun c_13 => ?_)
        · exact g_vret hx hr (dq tX7_append 26 rfl) ⟨(fun u_ v_ huv_ => (f_5 u_ v_ ⟨huv_.1, huv_.2⟩)), (Ta.fin h_7 (by omega))⟩
        · refine g_aload_n (n := 18) hx 1 (dq tX7_append 8 rfl) rfl rfl ?_
          refine g_getR (n := 21) hx glX7_9 (sX7_0 (by decide)) (dq tX7_append 9 rfl) rfl ?_
          refine g_aload_n (n := 22) hx 1 (dq tX7_append 10 rfl) rfl rfl ?_
          refine g_getI (n := 25) hx glX7_15 (sX7_1 (by decide)) (dq tX7_append 11 rfl) rfl (fun h_14l h_14u => ?_)
          refine g_iload_n (n := 26) hx 2 (dq tX7_append 12 rfl) rfl rfl ?_
          refine g_iload_n (n := 27) hx 0 (dq tX7_append 13 rfl) rfl rfl ?_
          refine g_iushrE (n := 28) hx (dq tX7_append 14 rfl) rfl (fun z_15 h_16 h_17e => ?_)
          refine g_sipush (n := 31) hx (dq tX7_append 15 rfl) rfl (by decide) ?_
          refine g_iandE (n := 32) hx (dq tX7_append 16 rfl) rfl (fun z_18 h_19 h_20e h_201 h_202 => ?_)
          obtain ⟨h_203, h_204⟩ := h_201 (by omega) (by omega)
          clear h_201 h_202
          refine g_iast (n := 33) (q := (M_2 7 1).toNat) hx (aX7_0 (b := 7) (by decide)) (dq tX7_append 17 rfl) rfl (by omega) (by omega) (by omega) rfl (by omega) (by omega) (fun M_21 m_22e m_22 => ?_)
          refine g_aload_n (n := 34) hx 1 (dq tX7_append 18 rfl) rfl rfl ?_
          refine g_dup (n := 35) hx (dq tX7_append 19 rfl) rfl rfl ?_
          refine g_getI (n := 38) hx glX7_15 (sX7_1 (by decide)) (dq tX7_append 20 rfl) rfl (fun h_23l h_23u => ?_)
          have e_24 : M_21 7 1 = M_2 7 1 := (m_22 7 1 (by omega))
          refine g_iconst (n := 39) hx (dq tX7_append 21 rfl) rfl ?_
          refine g_iadd (n := 40) hx (dq tX7_append 22 rfl) rfl ?_
          refine g_putI (n := 43) hx plX7_15 (sX7_1 (by decide)) (dq tX7_append 23 rfl) rfl (by omega) (by omega) (fun M_25 m_26e m_26 => ?_)
          refine g_iinc (n := 46) (lv' := [(2, vI (i_1 + (-8))), (0, aR Γ 7), (1, vI number)]) hx 0 (dq tX7_append 24 rfl) rfl (by decide) rfl rfl ?_
          refine g_goto (n := 3) hx (dq tX7_append 25 rfl) (by decide) ?_
          exact ih_4 _ (by omega) (i_1 + (-8)) M_25 (by omega) (by omega) (fun u_ v_ huv_ => (((m_26 u_ v_ huv_.1).trans (m_22 u_ v_ (by omega))).trans (f_5 u_ v_ ⟨huv_.1, huv_.2⟩))) (Ta.go (i := (M_2 7 1).toNat) h_7 (by omega) (by omega) m_22e m_22 (by rw [h_20e, h_17e]) m_26e (by omega) m_26 (by omega)) (by omega) rfl
  exact L_3 _ 24 M (by omega) (by omega) (fun _ _ _ => rfl) (Ta.nil ex0) (by omega) rfl

abbrev qctX9_feed2 (M : zM) (p : Int) (q : Int) (t : Int) (u : Int) (v : Int) (t9 : Nat → Int) (n9 : Nat) (z : Int) (M' : zM) : Prop := (∀ u_ v_, (u_ ≠ 7 ∨ v_ ≠ 1) ∧ u_ ≠ 7 + 1 → M' u_ v_ = M u_ v_) ∧ Gd M' 37 (45 + 1) ∧ ((n9 + 20 ≤ 400 ∧ z = n9 + 20 ∧ Tx M' (fd5 t9 n9 p q t u v) (n9 + 4 + 4 + 4 + 4 + 4)) ∨ (400 < n9 + 20 ∧ z = -1 ∧ Tx M' t9 n9))
set_option maxHeartbeats 4000000 in
set_option maxRecDepth 100000 in
theorem ctX9_feed2 (Γ : Gam) (M : zM) (p : Int) (hpl : (-2147483648) ≤ p) (hpu : p ≤ 2147483647) (q : Int) (hql : (-2147483648) ≤ q) (hqu : q ≤ 2147483647) (t : Int) (htl : (-2147483648) ≤ t) (htu : t ≤ 2147483647) (u : Int) (hul : (-2147483648) ≤ u) (huu : u ≤ 2147483647) (v : Int) (hvl : (-2147483648) ≤ v) (hvu : v ≤ 2147483647) (t9 : Nat → Int) (n9 : Nat) (gd0 : Gd M 37 (45 + 1)) (ex0 : Tx M t9 n9) : CtI Γ yX9_feed cX9_feed 6 (some .int) 1 22 [aR Γ 0, vI p, vI q, vI t, vI u, vI v] M (qctX9_feed2 M p q t u v t9 n9) := by
  refine met_i (by decide) (Nat.le_of_ble_eq_true rfl) (fun x hx hr => ?_)
  show G Γ x 6 (QI Γ x (qctX9_feed2 M p q t u v t9 n9)) M 0 [(0, aR Γ 0), (1, vI p), (2, vI q), (3, vI t), (4, vI u), (5, vI v)] []
  have hn9 := ex0.1
  refine g_iv (fun hI0 => ?_)
  have hI_n : (0 : Int) ≤ M 7 1 ∧ M 7 1 ≤ 400 := hI0 7 1
  clear hI0
  refine g_aload_n (n := 1) hx 0 (dq tX9_feed 0 rfl) rfl rfl ?_
  refine g_getR (n := 4) hx glX9_10 (sX9_0 (by decide)) (dq tX9_feed 1 rfl) rfl ?_
  refine g_getI (n := 7) hx glX9_78 (sX7_1 (by decide)) (dq tX9_feed 2 rfl) rfl (fun h_1l h_1u => ?_)
  refine g_bipush (n := 9) hx (dq tX9_feed 3 rfl) rfl (by decide) ?_
  refine g_iadd (n := 10) hx (dq tX9_feed 4 rfl) rfl ?_
  refine g_sipush (n := 13) hx (dq tX9_feed 5 rfl) rfl (by decide) ?_
  refine g_icmp_le (n := 16) (t := 18) hx (dq tX9_feed 6 rfl) (by decide) rfl ⟨by omega, by omega⟩ ⟨by decide, by decide⟩ (fun c_2 => ?_) (fun c_2 => ?_)
  · refine g_aload_n (n := 19) hx 0 (dq tX9_feed 9 rfl) rfl rfl ?_
    refine g_getR (n := 22) hx glX9_10 (sX9_0 (by decide)) (dq tX9_feed 10 rfl) rfl ?_
    refine g_iload_n (n := 23) hx 1 (dq tX9_feed 11 rfl) rfl rfl ?_
    refine g_callVv (n := 26) (As := [vI p]) (rest := []) hx (ctX7_append2 Γ M p (by omega) (by omega) t9 n9 (by omega) ex0) mlX9_82 (obX7 (by decide)) (dq tX9_feed 12 rfl) rfl (Nat.le_of_ble_eq_true rfl) (Nat.le_of_ble_eq_true rfl) (Nat.le_of_ble_eq_true rfl) rfl (fun M_4 p_6 => ?_)
    obtain ⟨f_7, h_8⟩ := p_6
    have g_9 : Gd M_4 37 (45 + 1) := Gd.frame gd0 (fun c j hcj => f_7 c j (by omega))
    have h_10 := h_8.1
    refine g_aload_n (n := 27) hx 0 (dq tX9_feed 13 rfl) rfl rfl ?_
    refine g_getR (n := 30) hx glX9_10 (sX9_0 (by decide)) (dq tX9_feed 14 rfl) rfl ?_
    refine g_iload_n (n := 31) hx 2 (dq tX9_feed 15 rfl) rfl rfl ?_
    have e_11 : M_4 37 1 = M 37 1 := (f_7 37 1 (by omega))
    have e_12 : M_4 37 3 = M 37 3 := (f_7 37 3 (by omega))
    refine g_callVv (n := 34) (As := [vI q]) (rest := []) hx (ctX7_append2 Γ M_4 q (by omega) (by omega) (fd t9 n9 p) (n9 + 4) (by omega) h_8) mlX9_82 (obX7 (by decide)) (dq tX9_feed 16 rfl) rfl (Nat.le_of_ble_eq_true rfl) (Nat.le_of_ble_eq_true rfl) (Nat.le_of_ble_eq_true rfl) rfl (fun M_14 p_16 => ?_)
    obtain ⟨f_17, h_18⟩ := p_16
    have g_19 : Gd M_14 37 (45 + 1) := Gd.frame g_9 (fun c j hcj => f_17 c j (by omega))
    have h_20 := h_18.1
    refine g_aload_n (n := 35) hx 0 (dq tX9_feed 17 rfl) rfl rfl ?_
    refine g_getR (n := 38) hx glX9_10 (sX9_0 (by decide)) (dq tX9_feed 18 rfl) rfl ?_
    refine g_iload_n (n := 39) hx 3 (dq tX9_feed 19 rfl) rfl rfl ?_
    have e_21 : M_14 37 1 = M_4 37 1 := (f_17 37 1 (by omega))
    have e_22 : M_14 37 3 = M_4 37 3 := (f_17 37 3 (by omega))
    refine g_callVv (n := 42) (As := [vI t]) (rest := []) hx (ctX7_append2 Γ M_14 t (by omega) (by omega) (fd (fd t9 n9 p) (n9 + 4) q) (n9 + 4 + 4) (by omega) h_18) mlX9_82 (obX7 (by decide)) (dq tX9_feed 20 rfl) rfl (Nat.le_of_ble_eq_true rfl) (Nat.le_of_ble_eq_true rfl) (Nat.le_of_ble_eq_true rfl) rfl (fun M_24 p_26 => ?_)
    obtain ⟨f_27, h_28⟩ := p_26
    have g_29 : Gd M_24 37 (45 + 1) := Gd.frame g_19 (fun c j hcj => f_27 c j (by omega))
    have h_30 := h_28.1
    refine g_aload_n (n := 43) hx 0 (dq tX9_feed 21 rfl) rfl rfl ?_
    refine g_getR (n := 46) hx glX9_10 (sX9_0 (by decide)) (dq tX9_feed 22 rfl) rfl ?_
    refine g_iload (n := 48) hx 4 (dq tX9_feed 23 rfl) rfl rfl ?_
    have e_31 : M_24 37 1 = M_14 37 1 := (f_27 37 1 (by omega))
    have e_32 : M_24 37 3 = M_14 37 3 := (f_27 37 3 (by omega))
    refine g_callVv (n := 51) (As := [vI u]) (rest := []) hx (ctX7_append2 Γ M_24 u (by omega) (by omega) (fd (fd (fd t9 n9 p) (n9 + 4) q) (n9 + 4 + 4) t) (n9 + 4 + 4 + 4) (by omega) h_28) mlX9_82 (obX7 (by decide)) (dq tX9_feed 24 rfl) rfl (Nat.le_of_ble_eq_true rfl) (Nat.le_of_ble_eq_true rfl) (Nat.le_of_ble_eq_true rfl) rfl (fun M_34 p_36 => ?_)
    obtain ⟨f_37, h_38⟩ := p_36
    have g_39 : Gd M_34 37 (45 + 1) := Gd.frame g_29 (fun c j hcj => f_37 c j (by omega))
    have h_40 := h_38.1
    refine g_aload_n (n := 52) hx 0 (dq tX9_feed 25 rfl) rfl rfl ?_
    refine g_getR (n := 55) hx glX9_10 (sX9_0 (by decide)) (dq tX9_feed 26 rfl) rfl ?_
    refine g_iload (n := 57) hx 5 (dq tX9_feed 27 rfl) rfl rfl ?_
    have e_41 : M_34 37 1 = M_24 37 1 := (f_37 37 1 (by omega))
    have e_42 : M_34 37 3 = M_24 37 3 := (f_37 37 3 (by omega))
    refine g_callVv (n := 60) (As := [vI v]) (rest := []) hx (ctX7_append2 Γ M_34 v (by omega) (by omega) (fd (fd (fd (fd t9 n9 p) (n9 + 4) q) (n9 + 4 + 4) t) (n9 + 4 + 4 + 4) u) (n9 + 4 + 4 + 4 + 4) (by omega) h_38) mlX9_82 (obX7 (by decide)) (dq tX9_feed 28 rfl) rfl (Nat.le_of_ble_eq_true rfl) (Nat.le_of_ble_eq_true rfl) (Nat.le_of_ble_eq_true rfl) rfl (fun M_44 p_46 => ?_)
    obtain ⟨f_47, h_48⟩ := p_46
    have g_49 : Gd M_44 37 (45 + 1) := Gd.frame g_39 (fun c j hcj => f_47 c j (by omega))
    have h_50 := h_48.1
    refine g_aload_n (n := 61) hx 0 (dq tX9_feed 29 rfl) rfl rfl ?_
    refine g_getR (n := 64) hx glX9_10 (sX9_0 (by decide)) (dq tX9_feed 30 rfl) rfl ?_
    refine g_getI (n := 67) hx glX9_78 (sX7_1 (by decide)) (dq tX9_feed 31 rfl) rfl (fun h_51l h_51u => ?_)
    have e_52 : M_44 37 1 = M_34 37 1 := (f_47 37 1 (by omega))
    have e_53 : M_44 37 3 = M_34 37 3 := (f_47 37 3 (by omega))
    exact g_iret hx hr (dq tX9_feed 32 rfl) (zrI h_51l h_51u (by decide) (by decide)) ⟨(fun u_ v_ huv_ => (((((f_47 u_ v_ ⟨huv_.1, huv_.2⟩).trans (f_37 u_ v_ ⟨huv_.1, huv_.2⟩)).trans (f_27 u_ v_ ⟨huv_.1, huv_.2⟩)).trans (f_17 u_ v_ ⟨huv_.1, huv_.2⟩)).trans (f_7 u_ v_ ⟨huv_.1, huv_.2⟩))), g_49, (Or.inl ⟨by omega, by omega, h_48⟩)⟩
  · refine g_iconst (n := 17) hx (dq tX9_feed 7 rfl) rfl ?_
    exact g_iret hx hr (dq tX9_feed 8 rfl) ⟨by decide, by decide⟩ ⟨(fun _ _ _ => rfl), gd0, (Or.inr ⟨by omega, by omega, ex0⟩)⟩

abbrev qctX9_end2 (M : zM) (n : Int) (z : Int) (M' : zM) : Prop := (∀ u_ v_, (u_ ≠ 7 ∨ v_ ≠ 1) → M' u_ v_ = M u_ v_) ∧ Gd M' 37 (45 + 1) ∧ ((0 ≤ n ∧ n ≤ M 7 1 ∧ z = n ∧ M' 7 1 = n) ∨ ((n < 0 ∨ M 7 1 < n) ∧ z = -1 ∧ M' 7 1 = M 7 1))
set_option maxHeartbeats 4000000 in
set_option maxRecDepth 100000 in
theorem ctX9_end2 (Γ : Gam) (M : zM) (n : Int) (hnl : (-2147483648) ≤ n) (hnu : n ≤ 2147483647) (gd0 : Gd M 37 (45 + 1)) : CtI Γ yX9_end cX9_end 2 (some .int) 0 0 [aR Γ 0, vI n] M (qctX9_end2 M n) := by
  refine met_i (by decide) (Nat.le_of_ble_eq_true rfl) (fun x hx hr => ?_)
  show G Γ x 2 (QI Γ x (qctX9_end2 M n)) M 0 [(0, aR Γ 0), (1, vI n)] []
  refine g_iload_n (n := 1) hx 1 (dq tX9_end 0 rfl) rfl rfl ?_
  refine g_if_lt (n := 4) (t := 15) hx (dq tX9_end 1 rfl) (by decide) rfl (zrI hnl hnu (by decide) (by decide)) (fun c_1 => ?_) (fun c_1 => ?_)
  · refine g_iconst (n := 16) hx (dq tX9_end 7 rfl) rfl ?_
    exact g_iret hx hr (dq tX9_end 8 rfl) ⟨by decide, by decide⟩ ⟨(fun _ _ _ => rfl), gd0, (by omega)⟩
  · refine g_iload_n (n := 5) hx 1 (dq tX9_end 2 rfl) rfl rfl ?_
    refine g_aload_n (n := 6) hx 0 (dq tX9_end 3 rfl) rfl rfl ?_
    refine g_getR (n := 9) hx glX9_10 (sX9_0 (by decide)) (dq tX9_end 4 rfl) rfl ?_
    refine g_getI (n := 12) hx glX9_78 (sX7_1 (by decide)) (dq tX9_end 5 rfl) rfl (fun h_2l h_2u => ?_)
    refine g_icmp_le (n := 15) (t := 17) hx (dq tX9_end 6 rfl) (by decide) rfl (zrI hnl hnu (by decide) (by decide)) (zrI h_2l h_2u (by decide) (by decide)) (fun c_3 => ?_) (fun c_3 => ?_)
    · refine g_aload_n (n := 18) hx 0 (dq tX9_end 9 rfl) rfl rfl ?_
      refine g_getR (n := 21) hx glX9_10 (sX9_0 (by decide)) (dq tX9_end 10 rfl) rfl ?_
      refine g_iload_n (n := 22) hx 1 (dq tX9_end 11 rfl) rfl rfl ?_
      refine g_putI (n := 25) hx plX9_78 (sX7_1 (by decide)) (dq tX9_end 12 rfl) rfl (by omega) (by omega) (fun M_4 m_5e m_5 => ?_)
      have g_6 : Gd M_4 37 (45 + 1) := Gd.frame gd0 (fun c j hcj => m_5 c j (by omega))
      refine g_iload_n (n := 26) hx 1 (dq tX9_end 13 rfl) rfl rfl ?_
      have e_7 : M_4 37 1 = M 37 1 := (m_5 37 1 (by omega))
      have e_8 : M_4 37 3 = M 37 3 := (m_5 37 3 (by omega))
      exact g_iret hx hr (dq tX9_end 14 rfl) (zrI hnl hnu (by decide) (by decide)) ⟨(fun u_ v_ huv_ => (m_5 u_ v_ huv_)), g_6, (by omega)⟩
    · refine g_iconst (n := 16) hx (dq tX9_end 7 rfl) rfl ?_
      exact g_iret hx hr (dq tX9_end 8 rfl) ⟨by decide, by decide⟩ ⟨(fun _ _ _ => rfl), gd0, (by omega)⟩

abbrev qctX10_put3 (M : zM) (v : Int) (t9 : Nat → Int) (n9 : Nat) (M' : zM) : Prop := (∀ u_ v_, u_ ≠ 229 + 37 ∧ (u_ ≠ 229 ∨ v_ ≠ 37) → M' u_ v_ = M u_ v_) ∧ (Ty M' (fd t9 n9 v) (n9 + 4))
set_option maxHeartbeats 4000000 in
set_option maxRecDepth 100000 in
theorem ctX10_put3 (Γ : Gam) (M : zM) (v : Int) (hvl : (-2147483648) ≤ v) (hvu : v ≤ 2147483647) (t9 : Nat → Int) (n9 : Nat) (pre0 : (n9 : Int) + 4 ≤ 400) (ex0 : Ty M t9 n9) : CtV Γ yX10_put cX10_put 3 none 0 0 [aR Γ 229, vI v] M (qctX10_put3 M v t9 n9) := by
  refine met_v (by decide) (Nat.le_of_ble_eq_true rfl) (fun x hx hr => ?_)
  show G Γ x 3 (QV Γ x (qctX10_put3 M v t9 n9)) M 0 [(0, aR Γ 229), (1, vI v)] []
  have hn9 := ex0.1
  refine g_iv (fun hI0 => ?_)
  have hI_n : (0 : Int) ≤ M 229 37 ∧ M 229 37 ≤ 400 := hI0 229 37
  clear hI0
  refine g_bipush (n := 2) hx (dq tX10_put 0 rfl) rfl (by decide) ?_
  refine g_istore_n (n := 3) (lv' := [(2, vI 24), (0, aR Γ 229), (1, vI v)]) hx (dq tX10_put 1 rfl) (by decide) rfl rfl ?_
  have L_3 : ∀ (n_ : Nat) (i_1 : Int) (M_2 : zM), ((-8) ≤ i_1) → (i_1 ≤ 24) → (∀ u_ v_, (u_ ≠ 229 ∨ v_ ≠ 37) ∧ u_ ≠ 229 + 37 → M_2 u_ v_ = M u_ v_) → (Tb M_2 t9 n9 v i_1) → (8 * M_2 229 37 = 8 * M 229 37 + 24 - i_1) → ((i_1 + 8).toNat = n_) → G Γ x 3 (QV Γ x (qctX10_put3 M v t9 n9)) M_2 3 [(2, vI i_1), (0, aR Γ 229), (1, vI v)] [] := by
    intro n_
    induction n_ using Nat.strongRecOn with
    | _ n_ ih_4 =>
      intro i_1 M_2 h_9 h_10 f_5 h_7 h_8 hm_6
      refine g_iload_n (n := 4) hx 0 (dq tX10_put 2 rfl) rfl rfl ?_
      refine g_if_lt (n := 7) (t := 36) hx (dq tX10_put 3 rfl) (by decide) rfl ⟨by omega, by omega⟩ (fun c_11 => ?_) (fun c_11 => ?_)
      · exact g_vret hx hr (dq tX10_put 21 rfl) ⟨(fun u_ v_ huv_ => (f_5 u_ v_ ⟨huv_.2, huv_.1⟩)), (Tb.fin h_7 (by omega))⟩
      · refine g_aload_n (n := 8) hx 1 (dq tX10_put 4 rfl) rfl rfl ?_
        refine g_getR (n := 11) hx glX10_122 (sX10_48 (by decide)) (dq tX10_put 5 rfl) rfl ?_
        refine g_aload_n (n := 12) hx 1 (dq tX10_put 6 rfl) rfl rfl ?_
        refine g_getI (n := 15) hx glX10_216 (sX10_37 (by decide)) (dq tX10_put 7 rfl) rfl (fun h_12l h_12u => ?_)
        refine g_iload_n (n := 16) hx 2 (dq tX10_put 8 rfl) rfl rfl ?_
        refine g_iload_n (n := 17) hx 0 (dq tX10_put 9 rfl) rfl rfl ?_
        refine g_ishrE (n := 18) hx (dq tX10_put 10 rfl) rfl (fun z_13 h_14 h_15e => ?_)
        refine g_i2bE (n := 19) hx (dq tX10_put 11 rfl) rfl (fun z_16 h_171 h_172 h_17e => ?_)
        refine g_bast (n := 20) (q := (M_2 229 37).toNat) hx (aX10_48 (b := 229) (by decide)) (dq tX10_put 12 rfl) rfl (by omega) (by omega) (by omega) rfl (by omega) (by omega) (show (-128) ≤ z_16 by omega) (show z_16 ≤ 127 by omega) (fun M_18 m_19e m_19 => ?_)
        refine g_aload_n (n := 21) hx 1 (dq tX10_put 13 rfl) rfl rfl ?_
        refine g_dup (n := 22) hx (dq tX10_put 14 rfl) rfl rfl ?_
        refine g_getI (n := 25) hx glX10_216 (sX10_37 (by decide)) (dq tX10_put 15 rfl) rfl (fun h_20l h_20u => ?_)
        have e_21 : M_18 229 37 = M_2 229 37 := (m_19 229 37 (by omega))
        refine g_iconst (n := 26) hx (dq tX10_put 16 rfl) rfl ?_
        refine g_iadd (n := 27) hx (dq tX10_put 17 rfl) rfl ?_
        refine g_putI (n := 30) hx plX10_216 (sX10_37 (by decide)) (dq tX10_put 18 rfl) rfl (by omega) (by omega) (fun M_22 m_23e m_23 => ?_)
        refine g_iinc (n := 33) (lv' := [(2, vI (i_1 + (-8))), (0, aR Γ 229), (1, vI v)]) hx 0 (dq tX10_put 19 rfl) rfl (by decide) rfl rfl ?_
        refine g_goto (n := 3) hx (dq tX10_put 20 rfl) (by decide) ?_
        exact ih_4 _ (by omega) (i_1 + (-8)) M_22 (by omega) (by omega) (fun u_ v_ huv_ => (((m_23 u_ v_ huv_.1).trans (m_19 u_ v_ (by omega))).trans (f_5 u_ v_ ⟨huv_.1, huv_.2⟩))) (Tb.go (i := (M_2 229 37).toNat) h_7 (by omega) (by omega) (by omega) m_19e m_19 (by rw [h_17e, h_15e]) m_23e (by omega) m_23 (by omega)) (by omega) rfl
  exact L_3 _ 24 M (by omega) (by omega) (fun _ _ _ => rfl) (Tb.nil ex0) (by omega) rfl

abbrev qctX10_feed3 (M : zM) (p : Int) (q : Int) (t : Int) (w : Int) (v : Int) (t9 : Nat → Int) (n9 : Nat) (z : Int) (M' : zM) : Prop := (∀ u_ v_, u_ ≠ 229 + 37 ∧ (u_ ≠ 229 ∨ v_ ≠ 37) → M' u_ v_ = M u_ v_) ∧ ((n9 + 20 ≤ 400 ∧ z = n9 + 20 ∧ Ty M' (fd5 t9 n9 p q t w v) (n9 + 4 + 4 + 4 + 4 + 4)) ∨ (400 < n9 + 20 ∧ z = -1 ∧ Ty M' t9 n9))
set_option maxHeartbeats 4000000 in
set_option maxRecDepth 100000 in
theorem ctX10_feed3 (Γ : Gam) (M : zM) (p : Int) (hpl : (-2147483648) ≤ p) (hpu : p ≤ 2147483647) (q : Int) (hql : (-2147483648) ≤ q) (hqu : q ≤ 2147483647) (t : Int) (htl : (-2147483648) ≤ t) (htu : t ≤ 2147483647) (w : Int) (hwl : (-2147483648) ≤ w) (hwu : w ≤ 2147483647) (v : Int) (hvl : (-2147483648) ≤ v) (hvu : v ≤ 2147483647) (t9 : Nat → Int) (n9 : Nat) (ex0 : Ty M t9 n9) : CtI Γ yX10_feed cX10_feed 6 (some .int) 1 22 [aR Γ 229, vI p, vI q, vI t, vI w, vI v] M (qctX10_feed3 M p q t w v t9 n9) := by
  refine met_i (by decide) (Nat.le_of_ble_eq_true rfl) (fun x hx hr => ?_)
  show G Γ x 6 (QI Γ x (qctX10_feed3 M p q t w v t9 n9)) M 0 [(0, aR Γ 229), (1, vI p), (2, vI q), (3, vI t), (4, vI w), (5, vI v)] []
  have hn9 := ex0.1
  refine g_iv (fun hI0 => ?_)
  have hI_n : (0 : Int) ≤ M 229 37 ∧ M 229 37 ≤ 400 := hI0 229 37
  clear hI0
  refine g_aload_n (n := 1) hx 0 (dq tX10_feed 0 rfl) rfl rfl ?_
  refine g_getI (n := 4) hx glX10_216 (sX10_37 (by decide)) (dq tX10_feed 1 rfl) rfl (fun h_1l h_1u => ?_)
  refine g_bipush (n := 6) hx (dq tX10_feed 2 rfl) rfl (by decide) ?_
  refine g_iadd (n := 7) hx (dq tX10_feed 3 rfl) rfl ?_
  refine g_sipush (n := 10) hx (dq tX10_feed 4 rfl) rfl (by decide) ?_
  refine g_icmp_le (n := 13) (t := 15) hx (dq tX10_feed 5 rfl) (by decide) rfl ⟨by omega, by omega⟩ ⟨by decide, by decide⟩ (fun c_2 => ?_) (fun c_2 => ?_)
  · refine g_aload_n (n := 16) hx 0 (dq tX10_feed 8 rfl) rfl rfl ?_
    refine g_iload_n (n := 17) hx 1 (dq tX10_feed 9 rfl) rfl rfl ?_
    refine g_callVv (n := 20) (As := [vI p]) (rest := []) hx (ctX10_put3 Γ M p (by omega) (by omega) t9 n9 (by omega) ex0) mlX10_219 (obX10 (by decide)) (dq tX10_feed 10 rfl) rfl (Nat.le_of_ble_eq_true rfl) (Nat.le_of_ble_eq_true rfl) (Nat.le_of_ble_eq_true rfl) rfl (fun M_4 p_6 => ?_)
    obtain ⟨f_7, h_8⟩ := p_6
    have h_9 := h_8.1
    refine g_aload_n (n := 21) hx 0 (dq tX10_feed 11 rfl) rfl rfl ?_
    refine g_iload_n (n := 22) hx 2 (dq tX10_feed 12 rfl) rfl rfl ?_
    refine g_callVv (n := 25) (As := [vI q]) (rest := []) hx (ctX10_put3 Γ M_4 q (by omega) (by omega) (fd t9 n9 p) (n9 + 4) (by omega) h_8) mlX10_219 (obX10 (by decide)) (dq tX10_feed 13 rfl) rfl (Nat.le_of_ble_eq_true rfl) (Nat.le_of_ble_eq_true rfl) (Nat.le_of_ble_eq_true rfl) rfl (fun M_11 p_13 => ?_)
    obtain ⟨f_14, h_15⟩ := p_13
    have h_16 := h_15.1
    refine g_aload_n (n := 26) hx 0 (dq tX10_feed 14 rfl) rfl rfl ?_
    refine g_iload_n (n := 27) hx 3 (dq tX10_feed 15 rfl) rfl rfl ?_
    refine g_callVv (n := 30) (As := [vI t]) (rest := []) hx (ctX10_put3 Γ M_11 t (by omega) (by omega) (fd (fd t9 n9 p) (n9 + 4) q) (n9 + 4 + 4) (by omega) h_15) mlX10_219 (obX10 (by decide)) (dq tX10_feed 16 rfl) rfl (Nat.le_of_ble_eq_true rfl) (Nat.le_of_ble_eq_true rfl) (Nat.le_of_ble_eq_true rfl) rfl (fun M_18 p_20 => ?_)
    obtain ⟨f_21, h_22⟩ := p_20
    have h_23 := h_22.1
    refine g_aload_n (n := 31) hx 0 (dq tX10_feed 17 rfl) rfl rfl ?_
    refine g_iload (n := 33) hx 4 (dq tX10_feed 18 rfl) rfl rfl ?_
    refine g_callVv (n := 36) (As := [vI w]) (rest := []) hx (ctX10_put3 Γ M_18 w (by omega) (by omega) (fd (fd (fd t9 n9 p) (n9 + 4) q) (n9 + 4 + 4) t) (n9 + 4 + 4 + 4) (by omega) h_22) mlX10_219 (obX10 (by decide)) (dq tX10_feed 19 rfl) rfl (Nat.le_of_ble_eq_true rfl) (Nat.le_of_ble_eq_true rfl) (Nat.le_of_ble_eq_true rfl) rfl (fun M_25 p_27 => ?_)
    obtain ⟨f_28, h_29⟩ := p_27
    have h_30 := h_29.1
    refine g_aload_n (n := 37) hx 0 (dq tX10_feed 20 rfl) rfl rfl ?_
    refine g_iload (n := 39) hx 5 (dq tX10_feed 21 rfl) rfl rfl ?_
    refine g_callVv (n := 42) (As := [vI v]) (rest := []) hx (ctX10_put3 Γ M_25 v (by omega) (by omega) (fd (fd (fd (fd t9 n9 p) (n9 + 4) q) (n9 + 4 + 4) t) (n9 + 4 + 4 + 4) w) (n9 + 4 + 4 + 4 + 4) (by omega) h_29) mlX10_219 (obX10 (by decide)) (dq tX10_feed 22 rfl) rfl (Nat.le_of_ble_eq_true rfl) (Nat.le_of_ble_eq_true rfl) (Nat.le_of_ble_eq_true rfl) rfl (fun M_32 p_34 => ?_)
    obtain ⟨f_35, h_36⟩ := p_34
    have h_37 := h_36.1
    refine g_aload_n (n := 43) hx 0 (dq tX10_feed 23 rfl) rfl rfl ?_
    refine g_getI (n := 46) hx glX10_216 (sX10_37 (by decide)) (dq tX10_feed 24 rfl) rfl (fun h_38l h_38u => ?_)
    exact g_iret hx hr (dq tX10_feed 25 rfl) (zrI h_38l h_38u (by decide) (by decide)) ⟨(fun u_ v_ huv_ => (((((f_35 u_ v_ ⟨huv_.1, huv_.2⟩).trans (f_28 u_ v_ ⟨huv_.1, huv_.2⟩)).trans (f_21 u_ v_ ⟨huv_.1, huv_.2⟩)).trans (f_14 u_ v_ ⟨huv_.1, huv_.2⟩)).trans (f_7 u_ v_ ⟨huv_.1, huv_.2⟩))), (Or.inl ⟨by omega, by omega, h_36⟩)⟩
  · refine g_iconst (n := 14) hx (dq tX10_feed 6 rfl) rfl ?_
    exact g_iret hx hr (dq tX10_feed 7 rfl) ⟨by decide, by decide⟩ ⟨(fun _ _ _ => rfl), (Or.inr ⟨by omega, by omega, ex0⟩)⟩

abbrev qctX10_end3 (M : zM) (n : Int) (z : Int) (M' : zM) : Prop := (∀ u_ v_, (u_ ≠ 229 ∨ v_ ≠ 37) → M' u_ v_ = M u_ v_) ∧ ((0 ≤ n ∧ n ≤ M 229 37 ∧ z = n ∧ M' 229 37 = n) ∨ ((n < 0 ∨ M 229 37 < n) ∧ z = -1 ∧ M' 229 37 = M 229 37))
set_option maxHeartbeats 4000000 in
set_option maxRecDepth 100000 in
theorem ctX10_end3 (Γ : Gam) (M : zM) (n : Int) (hnl : (-2147483648) ≤ n) (hnu : n ≤ 2147483647)  : CtI Γ yX10_end cX10_end 2 (some .int) 0 0 [aR Γ 229, vI n] M (qctX10_end3 M n) := by
  refine met_i (by decide) (Nat.le_of_ble_eq_true rfl) (fun x hx hr => ?_)
  show G Γ x 2 (QI Γ x (qctX10_end3 M n)) M 0 [(0, aR Γ 229), (1, vI n)] []
  refine g_iload_n (n := 1) hx 1 (dq tX10_end 0 rfl) rfl rfl ?_
  refine g_if_lt (n := 4) (t := 12) hx (dq tX10_end 1 rfl) (by decide) rfl (zrI hnl hnu (by decide) (by decide)) (fun c_1 => ?_) (fun c_1 => ?_)
  · refine g_iconst (n := 13) hx (dq tX10_end 6 rfl) rfl ?_
    exact g_iret hx hr (dq tX10_end 7 rfl) ⟨by decide, by decide⟩ ⟨(fun _ _ _ => rfl), (by omega)⟩
  · refine g_iload_n (n := 5) hx 1 (dq tX10_end 2 rfl) rfl rfl ?_
    refine g_aload_n (n := 6) hx 0 (dq tX10_end 3 rfl) rfl rfl ?_
    refine g_getI (n := 9) hx glX10_216 (sX10_37 (by decide)) (dq tX10_end 4 rfl) rfl (fun h_2l h_2u => ?_)
    refine g_icmp_le (n := 12) (t := 14) hx (dq tX10_end 5 rfl) (by decide) rfl (zrI hnl hnu (by decide) (by decide)) (zrI h_2l h_2u (by decide) (by decide)) (fun c_3 => ?_) (fun c_3 => ?_)
    · refine g_aload_n (n := 15) hx 0 (dq tX10_end 8 rfl) rfl rfl ?_
      refine g_iload_n (n := 16) hx 1 (dq tX10_end 9 rfl) rfl rfl ?_
      refine g_putI (n := 19) hx plX10_216 (sX10_37 (by decide)) (dq tX10_end 10 rfl) rfl (by omega) (by omega) (fun M_4 m_5e m_5 => ?_)
      refine g_iload_n (n := 20) hx 1 (dq tX10_end 11 rfl) rfl rfl ?_
      exact g_iret hx hr (dq tX10_end 12 rfl) (zrI hnl hnu (by decide) (by decide)) ⟨(fun u_ v_ huv_ => (m_5 u_ v_ huv_)), (by omega)⟩
    · refine g_iconst (n := 13) hx (dq tX10_end 6 rfl) rfl ?_
      exact g_iret hx hr (dq tX10_end 7 rfl) ⟨by decide, by decide⟩ ⟨(fun _ _ _ => rfl), (by omega)⟩
