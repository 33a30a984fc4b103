abbrev qctX10_entry0 (M : zM) (k : Int) (v : Int) (ua : Int) (ud : Int) (un : Int) (us : Int) (M' : zM) : Prop := (∀ u_ v_, u_ ≠ 229 + 38 ∧ u_ ≠ 229 + 39 ∧ (u_ ≠ 229 ∨ v_ ≠ 42) → M' u_ v_ = M u_ v_) ∧ (Rd M' ua (ud + 1) un (us - 6)) ∧ (Kp M M')
set_option maxHeartbeats 4000000 in
set_option maxRecDepth 100000 in
theorem ctX10_entry0 (Γ : Gam) (M : zM) (k : Int) (hkl : 0 ≤ k) (hku : k ≤ 1) (v : Int) (hvl : (-2147483648) ≤ v) (hvu : v ≤ 2147483647) (ua : Int) (ud : Int) (un : Int) (us : Int) (pre0 : k = 1 → (0 ≤ v ∧ v ≤ 12)) (pre1 : 6 ≤ us) (ex0 : Rd M ua ud un us) : CtV Γ yX10_entry cX10_entry 3 none 0 0 [aR Γ 229, vI k, vI v] M (qctX10_entry0 M k v ua ud un us) := by
  refine met_v (by decide) (Nat.le_of_ble_eq_true rfl) (fun x hx hr => ?_)
  show G Γ x 3 (QV Γ x (qctX10_entry0 M k v ua ud un us)) M 0 [(0, aR Γ 229), (1, vI k), (2, vI v)] []
  refine g_iv (fun hI0 => ?_)
  have hI_37 : (0 : Int) ≤ M 229 37 ∧ M 229 37 ≤ 400 := hI0 229 37
  have hI_38 : (0 : Int) ≤ M 229 38 ∧ M 229 38 ≤ 402 := hI0 229 38
  have hI_45 : (0 : Int) ≤ M 229 45 ∧ M 229 45 ≤ 402 := hI0 229 45
  have hI_42 : (0 : Int) ≤ M 229 42 ∧ M 229 42 ≤ 300 := hI0 229 42
  have hI_39 : (0 : Int) ≤ M 229 39 ∧ M 229 39 ≤ 100000 := hI0 229 39
  have hI_40 : (0 : Int) ≤ M 229 40 ∧ M 229 40 ≤ 5 := hI0 229 40
  have hI_41 : (0 : Int) ≤ M 229 41 ∧ M 229 41 ≤ 6 := hI0 229 41
  clear hI0
  refine g_aload_n (n := 1) hx 0 (dq tX10_entry 0 rfl) rfl rfl ?_
  refine g_getI (n := 4) hx glX10_246 (sX10_39 (by decide)) (dq tX10_entry 1 rfl) rfl (fun h_1l h_1u => ?_)
  refine g_if_ne (n := 7) (t := 55) hx (dq tX10_entry 2 rfl) (by decide) rfl (zrI h_1l h_1u (by decide) (by decide)) (fun c_2 => ?_) (fun c_2 => ?_)
  · exact g_vret hx hr (dq tX10_entry 31 rfl) ⟨(fun _ _ _ => rfl), (Rd.vac (by omega)), Kp.refl⟩
  · obtain ⟨hn1, hn2, hn3, hn4, hn5, hn6, hn7⟩ := Rd.nums ex0 (by omega)
    refine g_iv (fun hI => ?_)
    have hI7 : (0 : Int) ≤ M 229 37 ∧ M 229 37 ≤ 400 := hI 229 37
    clear hI
    refine g_aload_n (n := 8) hx 0 (dq tX10_entry 3 rfl) rfl rfl ?_
    refine g_getR (n := 11) hx glX10_126 (sX10_49 (by decide)) (dq tX10_entry 4 rfl) rfl ?_
    refine g_sipush (n := 14) hx (dq tX10_entry 5 rfl) rfl (by decide) ?_
    refine g_aload_n (n := 15) hx 0 (dq tX10_entry 6 rfl) rfl rfl ?_
    refine g_getI (n := 18) hx glX10_275 (sX10_40 (by decide)) (dq tX10_entry 7 rfl) rfl (fun h_3l h_3u => ?_)
    refine g_imul (n := 19) hx (dq tX10_entry 8 rfl) rfl ?_
    refine g_aload_n (n := 20) hx 0 (dq tX10_entry 9 rfl) rfl rfl ?_
    refine g_getI (n := 23) hx glX10_278 (sX10_42 (by decide)) (dq tX10_entry 10 rfl) rfl (fun h_4l h_4u => ?_)
    refine g_iadd (n := 24) hx (dq tX10_entry 11 rfl) rfl ?_
    refine g_iload_n (n := 25) hx 1 (dq tX10_entry 12 rfl) rfl rfl ?_
    refine g_iast (n := 26) (q := ((300 * (M 229 40)) + (M 229 42)).toNat) hx (aX10_49 (b := 229) (by decide)) (dq tX10_entry 13 rfl) rfl (by omega) (by omega) (by omega) rfl (by omega) (by omega) (fun M_5 m_6e m_6 => ?_)
    have g_7 := Kp.row Kp.refl (by omega) (by omega) m_6
    refine g_aload_n (n := 27) hx 0 (dq tX10_entry 14 rfl) rfl rfl ?_
    refine g_getR (n := 30) hx glX10_129 (sX10_50 (by decide)) (dq tX10_entry 15 rfl) rfl ?_
    refine g_sipush (n := 33) hx (dq tX10_entry 16 rfl) rfl (by decide) ?_
    refine g_aload_n (n := 34) hx 0 (dq tX10_entry 17 rfl) rfl rfl ?_
    refine g_getI (n := 37) hx glX10_275 (sX10_40 (by decide)) (dq tX10_entry 18 rfl) rfl (fun h_8l h_8u => ?_)
    have e_9 : M_5 229 40 = M 229 40 := (m_6 229 40 (by omega))
    refine g_imul (n := 38) hx (dq tX10_entry 19 rfl) rfl ?_
    refine g_aload_n (n := 39) hx 0 (dq tX10_entry 20 rfl) rfl rfl ?_
    refine g_getI (n := 42) hx glX10_278 (sX10_42 (by decide)) (dq tX10_entry 21 rfl) rfl (fun h_10l h_10u => ?_)
    have e_11 : M_5 229 42 = M 229 42 := (m_6 229 42 (by omega))
    refine g_iadd (n := 43) hx (dq tX10_entry 22 rfl) rfl ?_
    refine g_iload_n (n := 44) hx 2 (dq tX10_entry 23 rfl) rfl rfl ?_
    have e_12 : M_5 229 37 = M 229 37 := (m_6 229 37 (by omega))
    have e_13 : M_5 229 38 = M 229 38 := (m_6 229 38 (by omega))
    have e_14 : M_5 229 39 = M 229 39 := (m_6 229 39 (by omega))
    refine g_iast (n := 45) (q := ((300 * (M_5 229 40)) + (M_5 229 42)).toNat) hx (aX10_50 (b := 229) (by decide)) (dq tX10_entry 24 rfl) rfl (by omega) (by omega) (by omega) rfl (by omega) (by omega) (fun M_15 m_16e m_16 => ?_)
    have g_17 := Kp.row g_7 (by omega) (by omega) m_16
    refine g_aload_n (n := 46) hx 0 (dq tX10_entry 25 rfl) rfl rfl ?_
    refine g_dup (n := 47) hx (dq tX10_entry 26 rfl) rfl rfl ?_
    refine g_getI (n := 50) hx glX10_278 (sX10_42 (by decide)) (dq tX10_entry 27 rfl) rfl (fun h_18l h_18u => ?_)
    have e_19 : M_15 229 42 = M_5 229 42 := (m_16 229 42 (by omega))
    refine g_iconst (n := 51) hx (dq tX10_entry 28 rfl) rfl ?_
    refine g_iadd (n := 52) hx (dq tX10_entry 29 rfl) rfl ?_
    have e_20 : M_15 229 37 = M_5 229 37 := (m_16 229 37 (by omega))
    have e_21 : M_15 229 38 = M_5 229 38 := (m_16 229 38 (by omega))
    have e_22 : M_15 229 39 = M_5 229 39 := (m_16 229 39 (by omega))
    have e_23 : M_15 229 40 = M_5 229 40 := (m_16 229 40 (by omega))
    refine g_putI (n := 55) hx plX10_278 (sX10_42 (by decide)) (dq tX10_entry 30 rfl) rfl (by omega) (by omega) (fun M_24 m_25e m_25 => ?_)
    have g_26 := Kp.ent g_17 m_25e (by omega) m_25
    have e_27 : M_24 229 37 = M_15 229 37 := (m_25 229 37 (by omega))
    have e_28 : M_24 229 38 = M_15 229 38 := (m_25 229 38 (by omega))
    have e_29 : M_24 229 39 = M_15 229 39 := (m_25 229 39 (by omega))
    have e_30 : M_24 229 40 = M_15 229 40 := (m_25 229 40 (by omega))
    exact g_vret hx hr (dq tX10_entry 31 rfl) ⟨(fun u_ v_ huv_ => (((m_25 u_ v_ huv_.2.2).trans (m_16 u_ v_ (by omega))).trans (m_6 u_ v_ (by omega)))), (Rd.ent ex0 (by omega) (by omega) (by omega) (by omega) (by omega) m_6e m_6 m_16e m_16 m_25e (by omega) m_25 (by omega) (by omega) (by omega) (by omega) (by omega)), g_26⟩

abbrev qctX10_entry9 (M : zM) (k : Int) (v : Int) (ua : Int) (ud : Int) (un : Int) (us : Int) (M' : zM) : Prop := (∀ u_ v_, u_ ≠ 229 + 38 ∧ u_ ≠ 229 + 39 ∧ (u_ ≠ 229 ∨ v_ ≠ 42) → M' u_ v_ = M u_ v_) ∧ (Rd M' ua ud (un - 1) us) ∧ (Kp M M')
set_option maxHeartbeats 4000000 in
set_option maxRecDepth 100000 in
theorem ctX10_entry9 (Γ : Gam) (M : zM) (k : Int) (hkl : 9 ≤ k) (hku : k ≤ 9) (v : Int) (hvl : (-2147483648) ≤ v) (hvu : v ≤ 2147483647) (ua : Int) (ud : Int) (un : Int) (us : Int) (pre0 : 1 ≤ ud) (pre1 : 1 ≤ un) (pre2 : 0 ≤ us) (ex0 : Rd M ua ud un us) : CtV Γ yX10_entry cX10_entry 3 none 0 0 [aR Γ 229, vI k, vI v] M (qctX10_entry9 M k v ua ud un us) := by
  refine met_v (by decide) (Nat.le_of_ble_eq_true rfl) (fun x hx hr => ?_)
  show G Γ x 3 (QV Γ x (qctX10_entry9 M k v ua ud un us)) M 0 [(0, aR Γ 229), (1, vI k), (2, vI v)] []
  refine g_iv (fun hI0 => ?_)
  have hI_37 : (0 : Int) ≤ M 229 37 ∧ M 229 37 ≤ 400 := hI0 229 37
  have hI_38 : (0 : Int) ≤ M 229 38 ∧ M 229 38 ≤ 402 := hI0 229 38
  have hI_45 : (0 : Int) ≤ M 229 45 ∧ M 229 45 ≤ 402 := hI0 229 45
  have hI_42 : (0 : Int) ≤ M 229 42 ∧ M 229 42 ≤ 300 := hI0 229 42
  have hI_39 : (0 : Int) ≤ M 229 39 ∧ M 229 39 ≤ 100000 := hI0 229 39
  have hI_40 : (0 : Int) ≤ M 229 40 ∧ M 229 40 ≤ 5 := hI0 229 40
  have hI_41 : (0 : Int) ≤ M 229 41 ∧ M 229 41 ≤ 6 := hI0 229 41
  clear hI0
  refine g_aload_n (n := 1) hx 0 (dq tX10_entry 0 rfl) rfl rfl ?_
  refine g_getI (n := 4) hx glX10_246 (sX10_39 (by decide)) (dq tX10_entry 1 rfl) rfl (fun h_1l h_1u => ?_)
  refine g_if_ne (n := 7) (t := 55) hx (dq tX10_entry 2 rfl) (by decide) rfl (zrI h_1l h_1u (by decide) (by decide)) (fun c_2 => ?_) (fun c_2 => ?_)
  · exact g_vret hx hr (dq tX10_entry 31 rfl) ⟨(fun _ _ _ => rfl), (Rd.vac (by omega)), Kp.refl⟩
  · obtain ⟨hn1, hn2, hn3, hn4, hn5, hn6, hn7⟩ := Rd.nums ex0 (by omega)
    refine g_iv (fun hI => ?_)
    have hI7 : (0 : Int) ≤ M 229 37 ∧ M 229 37 ≤ 400 := hI 229 37
    clear hI
    refine g_aload_n (n := 8) hx 0 (dq tX10_entry 3 rfl) rfl rfl ?_
    refine g_getR (n := 11) hx glX10_126 (sX10_49 (by decide)) (dq tX10_entry 4 rfl) rfl ?_
    refine g_sipush (n := 14) hx (dq tX10_entry 5 rfl) rfl (by decide) ?_
    refine g_aload_n (n := 15) hx 0 (dq tX10_entry 6 rfl) rfl rfl ?_
    refine g_getI (n := 18) hx glX10_275 (sX10_40 (by decide)) (dq tX10_entry 7 rfl) rfl (fun h_3l h_3u => ?_)
    refine g_imul (n := 19) hx (dq tX10_entry 8 rfl) rfl ?_
    refine g_aload_n (n := 20) hx 0 (dq tX10_entry 9 rfl) rfl rfl ?_
    refine g_getI (n := 23) hx glX10_278 (sX10_42 (by decide)) (dq tX10_entry 10 rfl) rfl (fun h_4l h_4u => ?_)
    refine g_iadd (n := 24) hx (dq tX10_entry 11 rfl) rfl ?_
    refine g_iload_n (n := 25) hx 1 (dq tX10_entry 12 rfl) rfl rfl ?_
    refine g_iast (n := 26) (q := ((300 * (M 229 40)) + (M 229 42)).toNat) hx (aX10_49 (b := 229) (by decide)) (dq tX10_entry 13 rfl) rfl (by omega) (by omega) (by omega) rfl (by omega) (by omega) (fun M_5 m_6e m_6 => ?_)
    have g_7 := Kp.row Kp.refl (by omega) (by omega) m_6
    refine g_aload_n (n := 27) hx 0 (dq tX10_entry 14 rfl) rfl rfl ?_
    refine g_getR (n := 30) hx glX10_129 (sX10_50 (by decide)) (dq tX10_entry 15 rfl) rfl ?_
    refine g_sipush (n := 33) hx (dq tX10_entry 16 rfl) rfl (by decide) ?_
    refine g_aload_n (n := 34) hx 0 (dq tX10_entry 17 rfl) rfl rfl ?_
    refine g_getI (n := 37) hx glX10_275 (sX10_40 (by decide)) (dq tX10_entry 18 rfl) rfl (fun h_8l h_8u => ?_)
    have e_9 : M_5 229 40 = M 229 40 := (m_6 229 40 (by omega))
    refine g_imul (n := 38) hx (dq tX10_entry 19 rfl) rfl ?_
    refine g_aload_n (n := 39) hx 0 (dq tX10_entry 20 rfl) rfl rfl ?_
    refine g_getI (n := 42) hx glX10_278 (sX10_42 (by decide)) (dq tX10_entry 21 rfl) rfl (fun h_10l h_10u => ?_)
    have e_11 : M_5 229 42 = M 229 42 := (m_6 229 42 (by omega))
    refine g_iadd (n := 43) hx (dq tX10_entry 22 rfl) rfl ?_
    refine g_iload_n (n := 44) hx 2 (dq tX10_entry 23 rfl) rfl rfl ?_
    have e_12 : M_5 229 37 = M 229 37 := (m_6 229 37 (by omega))
    have e_13 : M_5 229 38 = M 229 38 := (m_6 229 38 (by omega))
    have e_14 : M_5 229 39 = M 229 39 := (m_6 229 39 (by omega))
    refine g_iast (n := 45) (q := ((300 * (M_5 229 40)) + (M_5 229 42)).toNat) hx (aX10_50 (b := 229) (by decide)) (dq tX10_entry 24 rfl) rfl (by omega) (by omega) (by omega) rfl (by omega) (by omega) (fun M_15 m_16e m_16 => ?_)
    have g_17 := Kp.row g_7 (by omega) (by omega) m_16
    refine g_aload_n (n := 46) hx 0 (dq tX10_entry 25 rfl) rfl rfl ?_
    refine g_dup (n := 47) hx (dq tX10_entry 26 rfl) rfl rfl ?_
    refine g_getI (n := 50) hx glX10_278 (sX10_42 (by decide)) (dq tX10_entry 27 rfl) rfl (fun h_18l h_18u => ?_)
    have e_19 : M_15 229 42 = M_5 229 42 := (m_16 229 42 (by omega))
    refine g_iconst (n := 51) hx (dq tX10_entry 28 rfl) rfl ?_
    refine g_iadd (n := 52) hx (dq tX10_entry 29 rfl) rfl ?_
    have e_20 : M_15 229 37 = M_5 229 37 := (m_16 229 37 (by omega))
    have e_21 : M_15 229 38 = M_5 229 38 := (m_16 229 38 (by omega))
    have e_22 : M_15 229 39 = M_5 229 39 := (m_16 229 39 (by omega))
    have e_23 : M_15 229 40 = M_5 229 40 := (m_16 229 40 (by omega))
    refine g_putI (n := 55) hx plX10_278 (sX10_42 (by decide)) (dq tX10_entry 30 rfl) rfl (by omega) (by omega) (fun M_24 m_25e m_25 => ?_)
    have g_26 := Kp.ent g_17 m_25e (by omega) m_25
    have e_27 : M_24 229 37 = M_15 229 37 := (m_25 229 37 (by omega))
    have e_28 : M_24 229 38 = M_15 229 38 := (m_25 229 38 (by omega))
    have e_29 : M_24 229 39 = M_15 229 39 := (m_25 229 39 (by omega))
    have e_30 : M_24 229 40 = M_15 229 40 := (m_25 229 40 (by omega))
    exact g_vret hx hr (dq tX10_entry 31 rfl) ⟨(fun u_ v_ huv_ => (((m_25 u_ v_ huv_.2.2).trans (m_16 u_ v_ (by omega))).trans (m_6 u_ v_ (by omega)))), (Rd.ent ex0 (by omega) (by omega) (by omega) (by omega) (by omega) m_6e m_6 m_16e m_16 m_25e (by omega) m_25 (by omega) (by omega) (by omega) (by omega) (by omega)), g_26⟩

abbrev qctX10_entry2 (M : zM) (k : Int) (v : Int) (ua : Int) (ud : Int) (un : Int) (us : Int) (M' : zM) : Prop := (∀ u_ v_, u_ ≠ 229 + 38 ∧ u_ ≠ 229 + 39 ∧ (u_ ≠ 229 ∨ v_ ≠ 42) → M' u_ v_ = M u_ v_) ∧ (Rd M' ua (ud - 1) un us) ∧ (Kp M M')
set_option maxHeartbeats 4000000 in
set_option maxRecDepth 100000 in
theorem ctX10_entry2 (Γ : Gam) (M : zM) (k : Int) (hkl : 2 ≤ k) (hku : k ≤ 15) (v : Int) (hvl : (-2147483648) ≤ v) (hvu : v ≤ 2147483647) (ua : Int) (ud : Int) (un : Int) (us : Int) (pre0 : k ≠ 9) (pre1 : 2 ≤ ud) (pre2 : 0 ≤ us) (ex0 : Rd M ua ud un us) : CtV Γ yX10_entry cX10_entry 3 none 0 0 [aR Γ 229, vI k, vI v] M (qctX10_entry2 M k v ua ud un us) := by
  refine met_v (by decide) (Nat.le_of_ble_eq_true rfl) (fun x hx hr => ?_)
  show G Γ x 3 (QV Γ x (qctX10_entry2 M k v ua ud un us)) M 0 [(0, aR Γ 229), (1, vI k), (2, vI v)] []
  refine g_iv (fun hI0 => ?_)
  have hI_37 : (0 : Int) ≤ M 229 37 ∧ M 229 37 ≤ 400 := hI0 229 37
  have hI_38 : (0 : Int) ≤ M 229 38 ∧ M 229 38 ≤ 402 := hI0 229 38
  have hI_45 : (0 : Int) ≤ M 229 45 ∧ M 229 45 ≤ 402 := hI0 229 45
  have hI_42 : (0 : Int) ≤ M 229 42 ∧ M 229 42 ≤ 300 := hI0 229 42
  have hI_39 : (0 : Int) ≤ M 229 39 ∧ M 229 39 ≤ 100000 := hI0 229 39
  have hI_40 : (0 : Int) ≤ M 229 40 ∧ M 229 40 ≤ 5 := hI0 229 40
  have hI_41 : (0 : Int) ≤ M 229 41 ∧ M 229 41 ≤ 6 := hI0 229 41
  clear hI0
  refine g_aload_n (n := 1) hx 0 (dq tX10_entry 0 rfl) rfl rfl ?_
  refine g_getI (n := 4) hx glX10_246 (sX10_39 (by decide)) (dq tX10_entry 1 rfl) rfl (fun h_1l h_1u => ?_)
  refine g_if_ne (n := 7) (t := 55) hx (dq tX10_entry 2 rfl) (by decide) rfl (zrI h_1l h_1u (by decide) (by decide)) (fun c_2 => ?_) (fun c_2 => ?_)
  · exact g_vret hx hr (dq tX10_entry 31 rfl) ⟨(fun _ _ _ => rfl), (Rd.vac (by omega)), Kp.refl⟩
  · obtain ⟨hn1, hn2, hn3, hn4, hn5, hn6, hn7⟩ := Rd.nums ex0 (by omega)
    refine g_iv (fun hI => ?_)
    have hI7 : (0 : Int) ≤ M 229 37 ∧ M 229 37 ≤ 400 := hI 229 37
    clear hI
    refine g_aload_n (n := 8) hx 0 (dq tX10_entry 3 rfl) rfl rfl ?_
    refine g_getR (n := 11) hx glX10_126 (sX10_49 (by decide)) (dq tX10_entry 4 rfl) rfl ?_
    refine g_sipush (n := 14) hx (dq tX10_entry 5 rfl) rfl (by decide) ?_
    refine g_aload_n (n := 15) hx 0 (dq tX10_entry 6 rfl) rfl rfl ?_
    refine g_getI (n := 18) hx glX10_275 (sX10_40 (by decide)) (dq tX10_entry 7 rfl) rfl (fun h_3l h_3u => ?_)
    refine g_imul (n := 19) hx (dq tX10_entry 8 rfl) rfl ?_
    refine g_aload_n (n := 20) hx 0 (dq tX10_entry 9 rfl) rfl rfl ?_
    refine g_getI (n := 23) hx glX10_278 (sX10_42 (by decide)) (dq tX10_entry 10 rfl) rfl (fun h_4l h_4u => ?_)
    refine g_iadd (n := 24) hx (dq tX10_entry 11 rfl) rfl ?_
    refine g_iload_n (n := 25) hx 1 (dq tX10_entry 12 rfl) rfl rfl ?_
    refine g_iast (n := 26) (q := ((300 * (M 229 40)) + (M 229 42)).toNat) hx (aX10_49 (b := 229) (by decide)) (dq tX10_entry 13 rfl) rfl (by omega) (by omega) (by omega) rfl (by omega) (by omega) (fun M_5 m_6e m_6 => ?_)
    have g_7 := Kp.row Kp.refl (by omega) (by omega) m_6
    refine g_aload_n (n := 27) hx 0 (dq tX10_entry 14 rfl) rfl rfl ?_
    refine g_getR (n := 30) hx glX10_129 (sX10_50 (by decide)) (dq tX10_entry 15 rfl) rfl ?_
    refine g_sipush (n := 33) hx (dq tX10_entry 16 rfl) rfl (by decide) ?_
    refine g_aload_n (n := 34) hx 0 (dq tX10_entry 17 rfl) rfl rfl ?_
    refine g_getI (n := 37) hx glX10_275 (sX10_40 (by decide)) (dq tX10_entry 18 rfl) rfl (fun h_8l h_8u => ?_)
    have e_9 : M_5 229 40 = M 229 40 := (m_6 229 40 (by omega))
    refine g_imul (n := 38) hx (dq tX10_entry 19 rfl) rfl ?_
    refine g_aload_n (n := 39) hx 0 (dq tX10_entry 20 rfl) rfl rfl ?_
    refine g_getI (n := 42) hx glX10_278 (sX10_42 (by decide)) (dq tX10_entry 21 rfl) rfl (fun h_10l h_10u => ?_)
    have e_11 : M_5 229 42 = M 229 42 := (m_6 229 42 (by omega))
    refine g_iadd (n := 43) hx (dq tX10_entry 22 rfl) rfl ?_
    refine g_iload_n (n := 44) hx 2 (dq tX10_entry 23 rfl) rfl rfl ?_
    have e_12 : M_5 229 37 = M 229 37 := (m_6 229 37 (by omega))
    have e_13 : M_5 229 38 = M 229 38 := (m_6 229 38 (by omega))
    have e_14 : M_5 229 39 = M 229 39 := (m_6 229 39 (by omega))
    refine g_iast (n := 45) (q := ((300 * (M_5 229 40)) + (M_5 229 42)).toNat) hx (aX10_50 (b := 229) (by decide)) (dq tX10_entry 24 rfl) rfl (by omega) (by omega) (by omega) rfl (by omega) (by omega) (fun M_15 m_16e m_16 => ?_)
    have g_17 := Kp.row g_7 (by omega) (by omega) m_16
    refine g_aload_n (n := 46) hx 0 (dq tX10_entry 25 rfl) rfl rfl ?_
    refine g_dup (n := 47) hx (dq tX10_entry 26 rfl) rfl rfl ?_
    refine g_getI (n := 50) hx glX10_278 (sX10_42 (by decide)) (dq tX10_entry 27 rfl) rfl (fun h_18l h_18u => ?_)
    have e_19 : M_15 229 42 = M_5 229 42 := (m_16 229 42 (by omega))
    refine g_iconst (n := 51) hx (dq tX10_entry 28 rfl) rfl ?_
    refine g_iadd (n := 52) hx (dq tX10_entry 29 rfl) rfl ?_
    have e_20 : M_15 229 37 = M_5 229 37 := (m_16 229 37 (by omega))
    have e_21 : M_15 229 38 = M_5 229 38 := (m_16 229 38 (by omega))
    have e_22 : M_15 229 39 = M_5 229 39 := (m_16 229 39 (by omega))
    have e_23 : M_15 229 40 = M_5 229 40 := (m_16 229 40 (by omega))
    refine g_putI (n := 55) hx plX10_278 (sX10_42 (by decide)) (dq tX10_entry 30 rfl) rfl (by omega) (by omega) (fun M_24 m_25e m_25 => ?_)
    have g_26 := Kp.ent g_17 m_25e (by omega) m_25
    have e_27 : M_24 229 37 = M_15 229 37 := (m_25 229 37 (by omega))
    have e_28 : M_24 229 38 = M_15 229 38 := (m_25 229 38 (by omega))
    have e_29 : M_24 229 39 = M_15 229 39 := (m_25 229 39 (by omega))
    have e_30 : M_24 229 40 = M_15 229 40 := (m_25 229 40 (by omega))
    exact g_vret hx hr (dq tX10_entry 31 rfl) ⟨(fun u_ v_ huv_ => (((m_25 u_ v_ huv_.2.2).trans (m_16 u_ v_ (by omega))).trans (m_6 u_ v_ (by omega)))), (Rd.ent ex0 (by omega) (by omega) (by omega) (by omega) (by omega) m_6e m_6 m_16e m_16 m_25e (by omega) m_25 (by omega) (by omega) (by omega) (by omega) (by omega)), g_26⟩

abbrev qctX10_digits (M : zM) (most : Int) (z : Int) (M' : zM) : Prop := (∀ u_ v_, (u_ ≠ 229 ∨ v_ ≠ 38) ∧ (u_ ≠ 229 ∨ v_ ≠ 39) → M' u_ v_ = M u_ v_) ∧ (M 229 38 ≤ M' 229 38) ∧ (M' 229 38 = M 229 38 ∨ M' 229 38 ≤ M 229 37) ∧ (M' 229 39 = 0 → M 229 39 = 0)
set_option maxHeartbeats 4000000 in
set_option maxRecDepth 100000 in
theorem ctX10_digits (Γ : Gam) (M : zM) (most : Int) (hmostl : 99999 ≤ most) (hmostu : most ≤ 99999)  : CtI Γ yX10_digits cX10_digits 4 (some .int) 2 45 [aR Γ 229, vI most] M (qctX10_digits M most) := by
  refine met_i (by decide) (Nat.le_of_ble_eq_true rfl) (fun x hx hr => ?_)
  show G Γ x 4 (QI Γ x (qctX10_digits M most)) M 0 [(0, aR Γ 229), (1, vI most)] []
  refine g_iv (fun hI0 => ?_)
  have hI_37 : (0 : Int) ≤ M 229 37 ∧ M 229 37 ≤ 400 := hI0 229 37
  have hI_38 : (0 : Int) ≤ M 229 38 ∧ M 229 38 ≤ 402 := hI0 229 38
  have hI_45 : (0 : Int) ≤ M 229 45 ∧ M 229 45 ≤ 402 := hI0 229 45
  have hI_42 : (0 : Int) ≤ M 229 42 ∧ M 229 42 ≤ 300 := hI0 229 42
  have hI_39 : (0 : Int) ≤ M 229 39 ∧ M 229 39 ≤ 100000 := hI0 229 39
  have hI_40 : (0 : Int) ≤ M 229 40 ∧ M 229 40 ≤ 5 := hI0 229 40
  have hI_41 : (0 : Int) ≤ M 229 41 ∧ M 229 41 ≤ 6 := hI0 229 41
  clear hI0
  refine g_aload_n (n := 1) hx 0 (dq tX10_digits 0 rfl) rfl rfl ?_
  refine g_callVi (n := 4) (As := []) (rest := []) hx (ctX10_isDigit Γ M ) mlX10_288 (obX10 (by decide)) (dq tX10_digits 1 rfl) rfl (Nat.le_of_ble_eq_true rfl) (Nat.le_of_ble_eq_true rfl) (Nat.le_of_ble_eq_true rfl) rfl (fun z_1 M_2 h_3 p_4 => ?_)
  obtain ⟨rfl, b_6⟩ := p_4
  refine g_if_ne (n := 7) (t := 18) hx (dq tX10_digits 2 rfl) (by decide) rfl h_3 (fun c_8 => ?_) (fun c_8 => ?_)
  · have b_6 := b_6.resolve_left c_8
    obtain ⟨-, h_7⟩ := b_6
    refine g_aload_n (n := 19) hx 0 (dq tX10_digits 10 rfl) rfl rfl ?_
    refine g_getI (n := 22) hx glX10_249 (sX10_38 (by decide)) (dq tX10_digits 11 rfl) rfl (fun h_9l h_9u => ?_)
    refine g_istore_n (n := 23) (lv' := [(2, vI (M 229 38)), (0, aR Γ 229), (1, vI most)]) hx (dq tX10_digits 12 rfl) (by decide) rfl rfl ?_
    refine g_iconst (n := 24) hx (dq tX10_digits 13 rfl) rfl ?_
    refine g_istore_n (n := 25) (lv' := [(3, vI 0), (2, vI (M 229 38)), (0, aR Γ 229), (1, vI most)]) hx (dq tX10_digits 14 rfl) (by decide) rfl rfl ?_
    have L_12 : ∀ (n_ : Nat) (i_10 : Int) (M_11 : zM), ((-2147483648) ≤ i_10) → (i_10 ≤ 2147483647) → (∀ u_ v_, (u_ ≠ 229 ∨ v_ ≠ 38) → M_11 u_ v_ = M u_ v_) → (M 229 38 ≤ M_11 229 38) → (M_11 229 38 = M 229 38 ∨ M_11 229 38 ≤ M 229 37) → ((402 - M_11 229 38).toNat = n_) → G Γ x 4 (QI Γ x (qctX10_digits M most)) M_11 25 [(3, vI i_10), (2, vI (M 229 38)), (0, aR Γ 229), (1, vI most)] [] := by
      intro n_
      induction n_ using Nat.strongRecOn with
      | _ n_ ih_13 =>
        intro i_10 M_11 h_18 h_19 f_14 h_16 h_17 hm_15
        refine g_aload_n (n := 26) hx 2 (dq tX10_digits 15 rfl) rfl rfl ?_
        have e_20 : M_11 229 37 = M 229 37 := (f_14 229 37 (by omega))
        have e_21 : M_11 229 39 = M 229 39 := (f_14 229 39 (by omega))
        refine g_callVi (n := 29) (As := []) (rest := []) hx (ctX10_isDigit Γ M_11 ) mlX10_288 (obX10 (by decide)) (dq tX10_digits 16 rfl) rfl (Nat.le_of_ble_eq_true rfl) (Nat.le_of_ble_eq_true rfl) (Nat.le_of_ble_eq_true rfl) rfl (fun z_22 M_23 h_24 p_25 => ?_)
        obtain ⟨rfl, b_27⟩ := p_25
        refine g_if_eq (n := 32) (t := 72) hx (dq tX10_digits 17 rfl) (by decide) rfl h_24 (fun c_29 => ?_) (fun c_29 => ?_)
        · clear b_27
          refine g_aload_n (n := 73) hx 2 (dq tX10_digits 42 rfl) rfl rfl ?_
          refine g_getI (n := 76) hx glX10_249 (sX10_38 (by decide)) (dq tX10_digits 43 rfl) rfl (fun h_30l h_30u => ?_)
          refine g_iload_n (n := 77) hx 1 (dq tX10_digits 44 rfl) rfl rfl ?_
          refine g_isub (n := 78) hx (dq tX10_digits 45 rfl) rfl ?_
          refine g_iconst (n := 79) hx (dq tX10_digits 46 rfl) rfl ?_
          refine g_icmp_gt (n := 82) (t := 87) hx (dq tX10_digits 47 rfl) (by decide) rfl ⟨by omega, by omega⟩ ⟨by decide, by decide⟩ (fun c_31 => ?_) (fun c_31 => ?_)
          · refine g_aload_n (n := 88) hx 2 (dq tX10_digits 51 rfl) rfl rfl ?_
            refine g_iconst (n := 89) hx (dq tX10_digits 52 rfl) rfl ?_
            refine g_iload_n (n := 90) hx 1 (dq tX10_digits 53 rfl) rfl rfl ?_
            refine g_callVv (n := 93) (As := [vI 1, vI (M 229 38)]) (rest := []) hx (ctX10_fails Γ M_11 1 (by decide) (by decide) (M 229 38) (by omega) (by omega)) mlX10_284 (obX10 (by decide)) (dq tX10_digits 54 rfl) rfl (Nat.le_of_ble_eq_true rfl) (Nat.le_of_ble_eq_true rfl) (Nat.le_of_ble_eq_true rfl) rfl (fun M_33 p_35 => ?_)
            obtain ⟨f_36, h_37⟩ := p_35
            refine g_iload_n (n := 94) hx 0 (dq tX10_digits 55 rfl) rfl rfl ?_
            have e_38 : M_33 229 37 = M_11 229 37 := (f_36 229 37 (by omega))
            have e_39 : M_33 229 38 = M_11 229 38 := (f_36 229 38 (by omega))
            exact g_iret hx hr (dq tX10_digits 56 rfl) ⟨by omega, by omega⟩ ⟨(fun u_ v_ huv_ => ((f_36 u_ v_ huv_.2).trans (f_14 u_ v_ huv_.1))), (by omega), (by omega), (by omega)⟩
          · refine g_iload_n (n := 83) hx 0 (dq tX10_digits 48 rfl) rfl rfl ?_
            refine g_iload_n (n := 84) hx 3 (dq tX10_digits 49 rfl) rfl rfl ?_
            refine g_icmp_le (n := 87) (t := 93) hx (dq tX10_digits 50 rfl) (by decide) rfl ⟨by omega, by omega⟩ (zrI hmostl hmostu (by decide) (by decide)) (fun c_40 => ?_) (fun c_40 => ?_)
            · refine g_iload_n (n := 94) hx 0 (dq tX10_digits 55 rfl) rfl rfl ?_
              exact g_iret hx hr (dq tX10_digits 56 rfl) ⟨by omega, by omega⟩ ⟨(fun u_ v_ huv_ => (f_14 u_ v_ huv_.1)), (by omega), (by omega), (by omega)⟩
            · refine g_aload_n (n := 88) hx 2 (dq tX10_digits 51 rfl) rfl rfl ?_
              refine g_iconst (n := 89) hx (dq tX10_digits 52 rfl) rfl ?_
              refine g_iload_n (n := 90) hx 1 (dq tX10_digits 53 rfl) rfl rfl ?_
              refine g_callVv (n := 93) (As := [vI 1, vI (M 229 38)]) (rest := []) hx (ctX10_fails Γ M_11 1 (by decide) (by decide) (M 229 38) (by omega) (by omega)) mlX10_284 (obX10 (by decide)) (dq tX10_digits 54 rfl) rfl (Nat.le_of_ble_eq_true rfl) (Nat.le_of_ble_eq_true rfl) (Nat.le_of_ble_eq_true rfl) rfl (fun M_42 p_44 => ?_)
              obtain ⟨f_45, h_46⟩ := p_44
              refine g_iload_n (n := 94) hx 0 (dq tX10_digits 55 rfl) rfl rfl ?_
              have e_47 : M_42 229 37 = M_11 229 37 := (f_45 229 37 (by omega))
              have e_48 : M_42 229 38 = M_11 229 38 := (f_45 229 38 (by omega))
              exact g_iret hx hr (dq tX10_digits 56 rfl) ⟨by omega, by omega⟩ ⟨(fun u_ v_ huv_ => ((f_45 u_ v_ huv_.2).trans (f_14 u_ v_ huv_.1))), (by omega), (by omega), (by omega)⟩
        · have b_27 := b_27.resolve_left c_29
          obtain ⟨-, h_28⟩ := b_27
          refine g_aload_n (n := 33) hx 2 (dq tX10_digits 18 rfl) rfl rfl ?_
          refine g_getI (n := 36) hx glX10_249 (sX10_38 (by decide)) (dq tX10_digits 19 rfl) rfl (fun h_49l h_49u => ?_)
          refine g_iload_n (n := 37) hx 1 (dq tX10_digits 20 rfl) rfl rfl ?_
          refine g_isub (n := 38) hx (dq tX10_digits 21 rfl) rfl ?_
          refine g_iconst (n := 39) hx (dq tX10_digits 22 rfl) rfl ?_
          refine g_icmp_ge (n := 42) (t := 57) hx (dq tX10_digits 23 rfl) (by decide) rfl ⟨by omega, by omega⟩ ⟨by decide, by decide⟩ (fun c_50 => ?_) (fun c_50 => ?_)
          · refine g_iload_n (n := 58) hx 0 (dq tX10_digits 33 rfl) rfl rfl ?_
            refine g_istore_n (n := 59) (lv' := [(3, vI i_10), (2, vI (M 229 38)), (0, aR Γ 229), (1, vI most)]) hx (dq tX10_digits 34 rfl) (by decide) rfl rfl ?_
            refine g_aload_n (n := 60) hx 2 (dq tX10_digits 35 rfl) rfl rfl ?_
            refine g_dup (n := 61) hx (dq tX10_digits 36 rfl) rfl rfl ?_
            refine g_getI (n := 64) hx glX10_249 (sX10_38 (by decide)) (dq tX10_digits 37 rfl) rfl (fun h_51l h_51u => ?_)
            refine g_iconst (n := 65) hx (dq tX10_digits 38 rfl) rfl ?_
            refine g_iadd (n := 66) hx (dq tX10_digits 39 rfl) rfl ?_
            refine g_putI (n := 69) hx plX10_249 (sX10_38 (by decide)) (dq tX10_digits 40 rfl) rfl (by omega) (by omega) (fun M_52 m_53e m_53 => ?_)
            refine g_goto (n := 25) hx (dq tX10_digits 41 rfl) (by decide) ?_
            have e_54 : M_52 229 37 = M_11 229 37 := (m_53 229 37 (by omega))
            have e_55 : M_52 229 39 = M_11 229 39 := (m_53 229 39 (by omega))
            exact ih_13 _ (by omega) i_10 M_52 (by omega) (by omega) (fun u_ v_ huv_ => ((m_53 u_ v_ huv_).trans (f_14 u_ v_ huv_))) (by first | assumption | omega) (by first | assumption | omega) rfl
          · refine g_bipush (n := 44) hx (dq tX10_digits 24 rfl) rfl (by decide) ?_
            refine g_iload_n (n := 45) hx 0 (dq tX10_digits 25 rfl) rfl rfl ?_
            refine g_imul (n := 46) hx (dq tX10_digits 26 rfl) rfl ?_
            refine g_aload_n (n := 47) hx 2 (dq tX10_digits 27 rfl) rfl rfl ?_
            refine g_callVi (n := 50) (As := []) (rest := [vI (10 * i_10)]) hx (ctX10_sign Γ M_11 ) mlX10_252 (obX10 (by decide)) (dq tX10_digits 28 rfl) rfl (Nat.le_of_ble_eq_true rfl) (Nat.le_of_ble_eq_true rfl) (Nat.le_of_ble_eq_true rfl) rfl (fun z_56 M_57 h_58 p_59 => ?_)
            obtain ⟨rfl, h_61, h_62, h_63⟩ := p_59
            refine g_iadd (n := 51) hx (dq tX10_digits 29 rfl) rfl ?_
            refine g_bipush (n := 53) hx (dq tX10_digits 30 rfl) rfl (by decide) ?_
            refine g_isub (n := 54) hx (dq tX10_digits 31 rfl) rfl ?_
            refine g_goto (n := 58) hx (dq tX10_digits 32 rfl) (by decide) ?_
            refine g_any (fun z_64 h_65 => ?_)
            refine g_istore_n (n := 59) (lv' := [(3, vI z_64), (2, vI (M 229 38)), (0, aR Γ 229), (1, vI most)]) hx (dq tX10_digits 34 rfl) (by decide) rfl rfl ?_
            refine g_aload_n (n := 60) hx 2 (dq tX10_digits 35 rfl) rfl rfl ?_
            refine g_dup (n := 61) hx (dq tX10_digits 36 rfl) rfl rfl ?_
            refine g_getI (n := 64) hx glX10_249 (sX10_38 (by decide)) (dq tX10_digits 37 rfl) rfl (fun h_66l h_66u => ?_)
            refine g_iconst (n := 65) hx (dq tX10_digits 38 rfl) rfl ?_
            refine g_iadd (n := 66) hx (dq tX10_digits 39 rfl) rfl ?_
            refine g_putI (n := 69) hx plX10_249 (sX10_38 (by decide)) (dq tX10_digits 40 rfl) rfl (by omega) (by omega) (fun M_67 m_68e m_68 => ?_)
            refine g_goto (n := 25) hx (dq tX10_digits 41 rfl) (by decide) ?_
            have e_69 : M_67 229 37 = M_11 229 37 := (m_68 229 37 (by omega))
            have e_70 : M_67 229 39 = M_11 229 39 := (m_68 229 39 (by omega))
            exact ih_13 _ (by omega) z_64 M_67 (by omega) (by omega) (fun u_ v_ huv_ => ((m_68 u_ v_ huv_).trans (f_14 u_ v_ huv_))) (by first | assumption | omega) (by first | assumption | omega) rfl
    exact L_12 _ 0 M (by omega) (by omega) (fun _ _ _ => rfl) (by first | assumption | omega) (by first | assumption | omega) rfl
  · clear b_6
    refine g_aload_n (n := 8) hx 0 (dq tX10_digits 3 rfl) rfl rfl ?_
    refine g_iconst (n := 9) hx (dq tX10_digits 4 rfl) rfl ?_
    refine g_aload_n (n := 10) hx 0 (dq tX10_digits 5 rfl) rfl rfl ?_
    refine g_getI (n := 13) hx glX10_249 (sX10_38 (by decide)) (dq tX10_digits 6 rfl) rfl (fun h_71l h_71u => ?_)
    refine g_callVv (n := 16) (As := [vI 0, vI (M 229 38)]) (rest := []) hx (ctX10_fails Γ M 0 (by decide) (by decide) (M 229 38) (by omega) (by omega)) mlX10_284 (obX10 (by decide)) (dq tX10_digits 7 rfl) rfl (Nat.le_of_ble_eq_true rfl) (Nat.le_of_ble_eq_true rfl) (Nat.le_of_ble_eq_true rfl) rfl (fun M_73 p_75 => ?_)
    obtain ⟨f_76, h_77⟩ := p_75
    refine g_iconst (n := 17) hx (dq tX10_digits 8 rfl) rfl ?_
    have e_78 : M_73 229 37 = M 229 37 := (f_76 229 37 (by omega))
    have e_79 : M_73 229 38 = M 229 38 := (f_76 229 38 (by omega))
    exact g_iret hx hr (dq tX10_digits 9 rfl) ⟨by decide, by decide⟩ ⟨(fun u_ v_ huv_ => (f_76 u_ v_ huv_.2)), (by omega), (by omega), (by omega)⟩
