abbrev qctX10_entry0 (M : zM) (k : Int) (v : Int) (ua : Int) (ud : Int) (un : Int) (us : Int) (M' : zM) : Prop := (∀ u_ v_, u_ ≠ 229 + 38 ∧ u_ ≠ 229 + 39 ∧ (u_ ≠ 229 ∨ v_ ≠ 42) → M' u_ v_ = M u_ v_) ∧ (Rd M' ua (ud + 1) un (us - 6)) ∧ (Kp M M')
set_option maxHeartbeats 4000000 in
set_option maxRecDepth 100000 in
theorem ctX10_entry0 (Γ : Gam) (M : zM) (k : Int) (hkl : 0 ≤ k) (hku : k ≤ 1) (v : Int) (hvl : (-2147483648) ≤ v) (hvu : v ≤ 2147483647) (ua : Int) (ud : Int) (un : Int) (us : Int) (pre0 : k = 1 → (0 ≤ v ∧ v ≤ 12)) (pre1 : 6 ≤ us) (ex0 : Rd M ua ud un us) : CtV Γ yX10_entry cX10_entry 3 none 0 0 [aR Γ 229, vI k, vI v] M (qctX10_entry0 M k v ua ud un us) := by
  refine met_v (by decide) (Nat.le_of_ble_eq_true rfl) (fun x hx hr => ?_)
  show G Γ x 3 (QV Γ x (qctX10_entry0 M k v ua ud un us)) M 0 [(0, aR Γ 229), (1, vI k), (2, vI v)] []
  refine g_iv (fun hI0 => ?_)
  have hI_37 : (0 : Int) ≤ M 229 37 ∧ M 229 37 ≤ 400 := hI0 229 37
  have hI_38 : (0 : Int) ≤ M 229 38 ∧ M 229 38 ≤ 402 := hI0 229 38
  have hI_45 : (0 : Int) ≤ M 229 45 ∧ M 229 45 ≤ 402 := hI0 229 45
  have hI_42 : (0 : Int) ≤ M 229 42 ∧ M 229 42 ≤ 300 := hI0 229 42
  have hI_39 : (0 : Int) ≤ M 229 39 ∧ M 229 39 ≤ 100000 := hI0 229 39
  have hI_40 : (0 : Int) ≤ M 229 40 ∧ M 229 40 ≤ 5 := hI0 229 40
  have hI_41 : (0 : Int) ≤ M 229 41 ∧ M 229 41 ≤ 6 := hI0 229 41
  clear hI0
  refine g_aload_n (n := 1) hx 0 (dq tX10_entry 0 rfl) rfl rfl ?_
  refine g_getI (n := 4) hx glX10_246 (sX10_39 (by decide)) (dq tX10_entry 1 rfl) rfl (fun h_1l h_1u => ?_)
  refine g_if_ne (n := 7) (t := 55) hx (dq tX10_entry 2 rfl) (by decide) rfl (zrI h_1l h_1u (by decide) (by decide)) (fun c_2 => ?_) (fun c_2 => ?_)
  · exact g_vret hx hr (dq tX10_entry 31 rfl) ⟨(fun _ _ _ => rfl), (Rd.vac (by omega)), Kp.refl⟩
  · obtain ⟨hn1, hn2, hn3, hn4, hn5, hn6, hn7⟩ := Rd.nums ex0 (by omega)
    refine g_iv (fun hI => ?_)
    have hI7 : (0 : Int) ≤ M 229 37 ∧ M 229 37 ≤ 400 := hI 229 37
    clear hI
    refine g_aload_n (n := 8) hx 0 (dq tX10_entry 3 rfl) rfl rfl ?_
    refine g_getR (n := 11) hx glX10_126 (sX10_49 (by decide)) (dq tX10_entry 4 rfl) rfl ?_
    refine g_sipush (n := 14) hx (dq tX10_entry 5 rfl) rfl (by decide) ?_
    refine g_aload_n (n := 15) hx 0 (dq tX10_entry 6 rfl) rfl rfl ?_
    refine g_getI (n := 18) hx glX10_275 (sX10_40 (by decide)) (dq tX10_entry 7 rfl) rfl (fun h_3l h_3u => ?_)
    refine g_imul (n := 19) hx (dq tX10_entry 8 rfl) rfl ?_
    refine g_aload_n (n := 20) hx 0 (dq tX10_entry 9 rfl) rfl rfl ?_
    refine g_getI (n := 23) hx glX10_278 (sX10_42 (by decide)) (dq tX10_entry 10 rfl) rfl (fun h_4l h_4u => ?_)
    refine g_iadd (n := 24) hx (dq tX10_entry 11 rfl) rfl ?_
    refine g_iload_n (n := 25) hx 1 (dq tX10_entry 12 rfl) rfl rfl ?_
    refine g_iast (n := 26) (q := ((300 * (M 229 40)) + (M 229 42)).toNat) hx (aX10_49 (b := 229) (by decide)) (dq tX10_entry 13 rfl) rfl (by omega) (by omega) (by omega) rfl (by omega) (by omega) (fun M_5 m_6e m_6 => ?_)
    have g_7 := Kp.row Kp.refl (by omega) (by omega) m_6
    refine g_aload_n (n := 27) hx 0 (dq tX10_entry 14 rfl) rfl rfl ?_
    refine g_getR (n := 30) hx glX10_129 (sX10_50 (by decide)) (dq tX10_entry 15 rfl) rfl ?_
    refine g_sipush (n := 33) hx (dq tX10_entry 16 rfl) rfl (by decide) ?_
    refine g_aload_n (n := 34) hx 0 (dq tX10_entry 17 rfl) rfl rfl ?_
    refine g_getI (n := 37) hx glX10_275 (sX10_40 (by decide)) (dq tX10_entry 18 rfl) rfl (fun h_8l h_8u => ?_)
    have e_9 : M_5 229 40 = M 229 40 := (m_6 229 40 (by omega))
    refine g_imul (n := 38) hx (dq tX10_entry 19 rfl) rfl ?_
    refine g_aload_n (n := 39) hx 0 (dq tX10_entry 20 rfl) rfl rfl ?_
    refine g_getI (n := 42) hx glX10_278 (sX10_42 (by decide)) (dq tX10_entry 21 rfl) rfl (fun h_10l h_10u => ?_)
    have e_11 : M_5 229 42 = M 229 42 := (m_6 229 42 (by omega))
    refine g_iadd (n := 43) hx (dq tX10_entry 22 rfl) rfl ?_
    refine g_iload_n (n := 44) hx 2 (dq tX10_entry 23 rfl) rfl rfl ?_
    have e_12 : M_5 229 37 = M 229 37 := (m_6 229 37 (by omega))
    have e_13 : M_5 229 38 = M 229 38 := (m_6 229 38 (by omega))
    have e_14 : M_5 229 39 = M 229 39 := (m_6 229 39 (by omega))
    refine g_iast (n := 45) (q := ((300 * (M_5 229 40)) + (M_5 229 42)).toNat) hx (aX10_50 (b := 229) (by decide)) (dq tX10_entry 24 rfl) rfl (by omega) (by omega) (by omega) rfl (by omega) (by omega) (fun M_15 m_16e m_16 => ?_)
    have g_17 := Kp.row g_7 (by omega) (by omega) m_16
    refine g_aload_n (n := 46) hx 0 (dq tX10_entry 25 rfl) rfl rfl ?_
    refine g_dup (n := 47) hx (dq tX10_entry 26 rfl) rfl rfl ?_
    refine g_getI (n := 50) hx glX10_278 (sX10_42 (by decide)) (dq tX10_entry 27 rfl) rfl (fun h_18l h_18u => ?_)
    have e_19 : M_15 229 42 = M_5 229 42 := (m_16 229 42 (by omega))
    refine g_iconst (n := 51) hx (dq tX10_entry 28 rfl) rfl ?_
    refine g_iadd (n := 52) hx (dq tX10_entry 29 rfl) rfl ?_
    have e_20 : M_15 229 37 = M_5 229 37 := (m_16 229 37 (by omega))
    have e_21 : M_15 229 38 = M_5 229 38 := (m_16 229 38 (by omega))
    have e_22 : M_15 229 39 = M_5 229 39 := (m_16 229 39 (by omega))
    have e_23 : M_15 229 40 = M_5 229 40 := (m_16 229 40 (by omega))
    refine g_putI (n := 55) hx plX10_278 (sX10_42 (by decide)) (dq tX10_entry 30 rfl) rfl (by omega) (by omega) (fun M_24 m_25e m_25 => ?_)
    have g_26 := Kp.ent g_17 m_25e (by omega) m_25
    have e_27 : M_24 229 37 = M_15 229 37 := (m_25 229 37 (by omega))
    have e_28 : M_24 229 38 = M_15 229 38 := (m_25 229 38 (by omega))
    have e_29 : M_24 229 39 = M_15 229 39 := (m_25 229 39 (by omega))
    have e_30 : M_24 229 40 = M_15 229 40 := (m_25 229 40 (by omega))
    exact g_vret hx hr (dq tX10_entry 31 rfl) ⟨(fun u_ v_ huv_ => (((m_25 u_ v_ huv_.2.2).trans (m_16 u_ v_ (by omega))).trans (m_6 u_ v_ (by omega)))), (Rd.ent ex0 (by omega) (by omega) (by omega) (by omega) (by omega) m_6e m_6 m_16e m_16 m_25e (by omega) m_25 (by omega) (by omega) (by omega) (by omega) (by omega)), g_26⟩

abbrev qctX10_entry9 (M : zM) (k : Int) (v : Int) (ua : Int) (ud : Int) (un : Int) (us : Int) (M' : zM) : Prop := (∀ u_ v_, u_ ≠ 229 + 38 ∧ u_ ≠ 229 + 39 ∧ (u_ ≠ 229 ∨ v_ ≠ 42) → M' u_ v_ = M u_ v_) ∧ (Rd M' ua ud (un - 1) us) ∧ (Kp M M')
set_option maxHeartbeats 4000000 in
set_option maxRecDepth 100000 in
theorem ctX10_entry9 (Γ : Gam) (M : zM) (k : Int) (hkl : 9 ≤ k) (hku : k ≤ 9) (v : Int) (hvl : (-2147483648) ≤ v) (hvu : v ≤ 2147483647) (ua : Int) (ud : Int) (un : Int) (us : Int) (pre0 : 1 ≤ ud) (pre1 : 1 ≤ un) (pre2 : 0 ≤ us) (ex0 : Rd M ua ud un us) : CtV Γ yX10_entry cX10_entry 3 none 0 0 [aR Γ 229, vI k, vI v] M (qctX10_entry9 M k v ua ud un us) := by
  refine met_v (by decide) (Nat.le_of_ble_eq_true rfl) (fun x hx hr => ?_)
  show G Γ x 3 (QV Γ x (qctX10_entry9 M k v ua ud un us)) M 0 [(0, aR Γ 229), (1, vI k), (2, vI v)] []
  refine g_iv (fun hI0 => ?_)
  have hI_37 : (0 : Int) ≤ M 229 37 ∧ M 229 37 ≤ 400 := hI0 229 37
  have hI_38 : (0 : Int) ≤ M 229 38 ∧ M 229 38 ≤ 402 := hI0 229 38
  have hI_45 : (0 : Int) ≤ M 229 45 ∧ M 229 45 ≤ 402 := hI0 229 45
  have hI_42 : (0 : Int) ≤ M 229 42 ∧ M 229 42 ≤ 300 := hI0 229 42
  have hI_39 : (0 : Int) ≤ M 229 39 ∧ M 229 39 ≤ 100000 := hI0 229 39
  have hI_40 : (0 : Int) ≤ M 229 40 ∧ M 229 40 ≤ 5 := hI0 229 40
  have hI_41 : (0 : Int) ≤ M 229 41 ∧ M 229 41 ≤ 6 := hI0 229 41
  clear hI0
  refine g_aload_n (n := 1) hx 0 (dq tX10_entry 0 rfl) rfl rfl ?_
  refine g_getI (n := 4) hx glX10_246 (sX10_39 (by decide)) (dq tX10_entry 1 rfl) rfl (fun h_1l h_1u => ?_)
  refine g_if_ne (n := 7) (t := 55) hx (dq tX10_entry 2 rfl) (by decide) rfl (zrI h_1l h_1u (by decide) (by decide)) (fun c_2 => ?_) (fun c_2 => ?_)
  · exact g_vret hx hr (dq tX10_entry 31 rfl) ⟨(fun _ _ _ => rfl), (Rd.vac (by omega)), Kp.refl⟩
  · obtain ⟨hn1, hn2, hn3, hn4, hn5, hn6, hn7⟩ := Rd.nums ex0 (by omega)
    refine g_iv (fun hI => ?_)
    have hI7 : (0 : Int) ≤ M 229 37 ∧ M 229 37 ≤ 400 := hI 229 37
    clear hI
    refine g_aload_n (n := 8) hx 0 (dq tX10_entry 3 rfl) rfl rfl ?_
    refine g_getR (n := 11) hx glX10_126 (sX10_49 (by decide)) (dq tX10_entry 4 rfl) rfl ?_
    refine g_sipush (n := 14) hx (dq tX10_entry 5 rfl) rfl (by decide) ?_
    refine g_aload_n (n := 15) hx 0 (dq tX10_entry 6 rfl) rfl rfl ?_
    refine g_getI (n := 18) hx glX10_275 (sX10_40 (by decide)) (dq tX10_entry 7 rfl) rfl (fun h_3l h_3u => ?_)
    refine g_imul (n := 19) hx (dq tX10_entry 8 rfl) rfl ?_
    refine g_aload_n (n := 20) hx 0 (dq tX10_entry 9 rfl) rfl rfl ?_
    refine g_getI (n := 23) hx glX10_278 (sX10_42 (by decide)) (dq tX10_entry 10 rfl) rfl (fun h_4l h_4u => ?_)
    refine g_iadd (n := 24) hx (dq tX10_entry 11 rfl) rfl ?_
    refine g_iload_n (n := 25) hx 1 (dq tX10_entry 12 rfl) rfl rfl ?_
    refine g_iast (n := 26) (q := ((300 * (M 229 40)) + (M 229 42)).toNat) hx (aX10_49 (b := 229) (by decide)) (dq tX10_entry 13 rfl) rfl (by omega) (by omega) (by omega) rfl (by omega) (by omega) (fun M_5 m_6e m_6 => ?_)
    have g_7 := Kp.row Kp.refl (by omega) (by omega) m_6
    refine g_aload_n (n := 27) hx 0 (dq tX10_entry 14 rfl) rfl rfl ?_
    refine g_getR (n := 30) hx glX10_129 (sX10_50 (by decide)) (dq tX10_entry 15 rfl) rfl ?_
    refine g_sipush (n := 33) hx (dq tX10_entry 16 rfl) rfl (by decide) ?_
    refine g_aload_n (n := 34) hx 0 (dq tX10_entry 17 rfl) rfl rfl ?_
    refine g_getI (n := 37) hx glX10_275 (sX10_40 (by decide)) (dq tX10_entry 18 rfl) rfl (fun h_8l h_8u => ?_)
    have e_9 : M_5 229 40 = M 229 40 := (m_6 229 40 (by omega))
    refine g_imul (n := 38) hx (dq tX10_entry 19 rfl) rfl ?_
    refine g_aload_n (n := 39) hx 0 (dq tX10_entry 20 rfl) rfl rfl ?_
    refine g_getI (n := 42) hx glX10_278 (sX10_42 (by decide)) (dq tX10_entry 21 rfl) rfl (fun h_10l h_10u => ?_)
    have e_11 : M_5 229 42 = M 229 42 := (m_6 229 42 (by omega))
    refine g_iadd (n := 43) hx (dq tX10_entry 22 rfl) rfl ?_
    refine g_iload_n (n := 44) hx 2 (dq tX10_entry 23 rfl) rfl rfl ?_
    have e_12 : M_5 229 37 = M 229 37 := (m_6 229 37 (by omega))
    have e_13 : M_5 229 38 = M 229 38 := (m_6 229 38 (by omega))
    have e_14 : M_5 229 39 = M 229 39 := (m_6 229 39 (by omega))
    refine g_iast (n := 45) (q := ((300 * (M_5 229 40)) + (M_5 229 42)).toNat) hx (aX10_50 (b := 229) (by decide)) (dq tX10_entry 24 rfl) rfl (by omega) (by omega) (by omega) rfl (by omega) (by omega) (fun M_15 m_16e m_16 => ?_)
    have g_17 := Kp.row g_7 (by omega) (by omega) m_16
    refine g_aload_n (n := 46) hx 0 (dq tX10_entry 25 rfl) rfl rfl ?_
    refine g_dup (n := 47) hx (dq tX10_entry 26 rfl) rfl rfl ?_
    refine g_getI (n := 50) hx glX10_278 (sX10_42 (by decide)) (dq tX10_entry 27 rfl) rfl (fun h_18l h_18u => ?_)
    have e_19 : M_15 229 42 = M_5 229 42 := (m_16 229 42 (by omega))
    refine g_iconst (n := 51) hx (dq tX10_entry 28 rfl) rfl ?_
    refine g_iadd (n := 52) hx (dq tX10_entry 29 rfl) rfl ?_
    have e_20 : M_15 229 37 = M_5 229 37 := (m_16 229 37 (by omega))
    have e_21 : M_15 229 38 = M_5 229 38 := (m_16 229 38 (by omega))
    have e_22 : M_15 229 39 = M_5 229 39 := (m_16 229 39 (by omega))
    have e_23 : M_15 229 40 = M_5 229 40 := (m_16 229 40 (by omega))
    refine g_putI (n := 55) hx plX10_278 (sX10_42 (by decide)) (dq tX10_entry 30 rfl) rfl (by omega) (by omega) (fun M_24 m_25e m_25 => ?_)
    have g_26 := Kp.ent g_17 m_25e (by omega) m_25
    have e_27 : M_24 229 37 = M_15 229 37 := (m_25 229 37 (by omega))
    have e_28 : M_24 229 38 = M_15 229 38 := (m_25 229 38 (by omega))
    have e_29 : M_24 229 39 = M_15 229 39 := (m_25 229 39 (by omega))
    have e_30 : M_24 229 40 = M_15 229 40 := (m_25 229 40 (by omega))
    exact g_vret hx hr (dq tX10_entry 31 rfl) ⟨(fun u_ v_ huv_ => (((m_25 u_ v_ huv_.2.2).trans (m_16 u_ v_ (by omega))).trans (m_6 u_ v_ (by omega)))), (Rd.ent ex0 (by omega) (by omega) (by omega) (by omega) (by omega) m_6e m_6 m_16e m_16 m_25e (by omega) m_25 (by omega) (by omega) (by omega) (by omega) (by omega)), g_26⟩

abbrev qctX10_entry2 (M : zM) (k : Int) (v : Int) (ua : Int) (ud : Int) (un : Int) (us : Int) (M' : zM) : Prop := (∀ u_ v_, u_ ≠ 229 + 38 ∧ u_ ≠ 229 + 39 ∧ (u_ ≠ 229 ∨ v_ ≠ 42) → M' u_ v_ = M u_ v_) ∧ (Rd M' ua (ud - 1) un us) ∧ (Kp M M')
set_option maxHeartbeats 4000000 in
set_option maxRecDepth 100000 in
theorem ctX10_entry2 (Γ : Gam) (M : zM) (k : Int) (hkl : 2 ≤ k) (hku : k ≤ 15) (v : Int) (hvl : (-2147483648) ≤ v) (hvu : v ≤ 2147483647) (ua : Int) (ud : Int) (un : Int) (us : Int) (pre0 : k ≠ 9) (pre1 : 2 ≤ ud) (pre2 : 0 ≤ us) (ex0 : Rd M ua ud un us) : CtV Γ yX10_entry cX10_entry 3 none 0 0 [aR Γ 229, vI k, vI v] M (qctX10_entry2 M k v ua ud un us) := by
  refine met_v (by decide) (Nat.le_of_ble_eq_true rfl) (fun x hx hr => ?_)
  show G Γ x 3 (QV Γ x (qctX10_entry2 M k v ua ud un us)) M 0 [(0, aR Γ 229), (1, vI k), (2, vI v)] []
  refine g_iv (fun hI0 => ?_)
  have hI_37 : (0 : Int) ≤ M 229 37 ∧ M 229 37 ≤ 400 := hI0 229 37
  have hI_38 : (0 : Int) ≤ M 229 38 ∧ M 229 38 ≤ 402 := hI0 229 38
  have hI_45 : (0 : Int) ≤ M 229 45 ∧ M 229 45 ≤ 402 := hI0 229 45
  have hI_42 : (0 : Int) ≤ M 229 42 ∧ M 229 42 ≤ 300 := hI0 229 42
  have hI_39 : (0 : Int) ≤ M 229 39 ∧ M 229 39 ≤ 100000 := hI0 229 39
  have hI_40 : (0 : Int) ≤ M 229 40 ∧ M 229 40 ≤ 5 := hI0 229 40
  have hI_41 : (0 : Int) ≤ M 229 41 ∧ M 229 41 ≤ 6 := hI0 229 41
  clear hI0
  refine g_aload_n (n := 1) hx 0 (dq tX10_entry 0 rfl) rfl rfl ?_
  refine g_getI (n := 4) hx glX10_246 (sX10_39 (by decide)) (dq tX10_entry 1 rfl) rfl (fun h_1l h_1u => ?_)
  refine g_if_ne (n := 7) (t := 55) hx (dq tX10_entry 2 rfl) (by decide) rfl (zrI h_1l h_1u (by decide) (by decide)) (fun c_2 => ?_) (fun c_2 => ?_)
  · exact g_vret hx hr (dq tX10_entry 31 rfl) ⟨(fun _ _ _ => rfl), (Rd.vac (by omega)), Kp.refl⟩
  · obtain ⟨hn1, hn2, hn3, hn4, hn5, hn6, hn7⟩ := Rd.nums ex0 (by omega)
    refine g_iv (fun hI => ?_)
    have hI7 : (0 : Int) ≤ M 229 37 ∧ M 229 37 ≤ 400 := hI 229 37
    clear hI
    refine g_aload_n (n := 8) hx 0 (dq tX10_entry 3 rfl) rfl rfl ?_
    refine g_getR (n := 11) hx glX10_126 (sX10_49 (by decide)) (dq tX10_entry 4 rfl) rfl ?_
    refine g_sipush (n := 14) hx (dq tX10_entry 5 rfl) rfl (by decide) ?_
    refine g_aload_n (n := 15) hx 0 (dq tX10_entry 6 rfl) rfl rfl ?_
    refine g_getI (n := 18) hx glX10_275 (sX10_40 (by decide)) (dq tX10_entry 7 rfl) rfl (fun h_3l h_3u => ?_)
    refine g_imul (n := 19) hx (dq tX10_entry 8 rfl) rfl ?_
    refine g_aload_n (n := 20) hx 0 (dq tX10_entry 9 rfl) rfl rfl ?_
    refine g_getI (n := 23) hx glX10_278 (sX10_42 (by decide)) (dq tX10_entry 10 rfl) rfl (fun h_4l h_4u => ?_)
    refine g_iadd (n := 24) hx (dq tX10_entry 11 rfl) rfl ?_
    refine g_iload_n (n := 25) hx 1 (dq tX10_entry 12 rfl) rfl rfl ?_
    refine g_iast (n := 26) (q := ((300 * (M 229 40)) + (M 229 42)).toNat) hx (aX10_49 (b := 229) (by decide)) (dq tX10_entry 13 rfl) rfl (by omega) (by omega) (by omega) rfl (by omega) (by omega) (fun M_5 m_6e m_6 => ?_)
    have g_7 := Kp.row Kp.refl (by omega) (by omega) m_6
    refine g_aload_n (n := 27) hx 0 (dq tX10_entry 14 rfl) rfl rfl ?_
    refine g_getR (n := 30) hx glX10_129 (sX10_50 (by decide)) (dq tX10_entry 15 rfl) rfl ?_
    refine g_sipush (n := 33) hx (dq tX10_entry 16 rfl) rfl (by decide) ?_
    refine g_aload_n (n := 34) hx 0 (dq tX10_entry 17 rfl) rfl rfl ?_
    refine g_getI (n := 37) hx glX10_275 (sX10_40 (by decide)) (dq tX10_entry 18 rfl) rfl (fun h_8l h_8u => ?_)
    have e_9 : M_5 229 40 = M 229 40 := (m_6 229 40 (by omega))
    refine g_imul (n := 38) hx (dq tX10_entry 19 rfl) rfl ?_
    refine g_aload_n (n := 39) hx 0 (dq tX10_entry 20 rfl) rfl rfl ?_
    refine g_getI (n := 42) hx glX10_278 (sX10_42 (by decide)) (dq tX10_entry 21 rfl) rfl (fun h_10l h_10u => ?_)
    have e_11 : M_5 229 42 = M 229 42 := (m_6 229 42 (by omega))
    refine g_iadd (n := 43) hx (dq tX10_entry 22 rfl) rfl ?_
    refine g_iload_n (n := 44) hx 2 (dq tX10_entry 23 rfl) rfl rfl ?_
    have e_12 : M_5 229 37 = M 229 37 := (m_6 229 37 (by omega))
    have e_13 : M_5 229 38 = M 229 38 := (m_6 229 38 (by omega))
    have e_14 : M_5 229 39 = M 229 39 := (m_6 229 39 (by omega))
    refine g_iast (n := 45) (q := ((300 * (M_5 229 40)) + (M_5 229 42)).toNat) hx (aX10_50 (b := 229) (by decide)) (dq tX10_entry 24 rfl) rfl (by omega) (by omega) (by omega) rfl (by omega) (by omega) (fun M_15 m_16e m_16 => ?_)
    have g_17 := Kp.row g_7 (by omega) (by omega) m_16
    refine g_aload_n (n := 46) hx 0 (dq tX10_entry 25 rfl) rfl rfl ?_
    refine g_dup (n := 47) hx (dq tX10_entry 26 rfl) rfl rfl ?_
    refine g_getI (n := 50) hx glX10_278 (sX10_42 (by decide)) (dq tX10_entry 27 rfl) rfl (fun h_18l h_18u => ?_)
    have e_19 : M_15 229 42 = M_5 229 42 := (m_16 229 42 (by omega))
    refine g_iconst (n := 51) hx (dq tX10_entry 28 rfl) rfl ?_
    refine g_iadd (n := 52) hx (dq tX10_entry 29 rfl) rfl ?_
    have e_20 : M_15 229 37 = M_5 229 37 := (m_16 229 37 (by omega))
    have e_21 : M_15 229 38 = M_5 229 38 := (m_16 229 38 (by omega))
    have e_22 : M_15 229 39 = M_5 229 39 := (m_16 229 39 (by omega))
    have e_23 : M_15 229 40 = M_5 229 40 := (m_16 229 40 (by omega))
    refine g_putI (n := 55) hx plX10_278 (sX10_42 (by decide)) (dq tX10_entry 30 rfl) rfl (by omega) (by omega) (fun M_24 m_25e m_25 => ?_)
    have g_26 := Kp.ent g_17 m_25e (by omega) m_25
    have e_27 : M_24 229 37 = M_15 229 37 := (m_25 229 37 (by omega))
    have e_28 : M_24 229 38 = M_15 229 38 := (m_25 229 38 (by omega))
    have e_29 : M_24 229 39 = M_15 229 39 := (m_25 229 39 (by omega))
    have e_30 : M_24 229 40 = M_15 229 40 := (m_25 229 40 (by omega))
    exact g_vret hx hr (dq tX10_entry 31 rfl) ⟨(fun u_ v_ huv_ => (((m_25 u_ v_ huv_.2.2).trans (m_16 u_ v_ (by omega))).trans (m_6 u_ v_ (by omega)))), (Rd.ent ex0 (by omega) (by omega) (by omega) (by omega) (by omega) m_6e m_6 m_16e m_16 m_25e (by omega) m_25 (by omega) (by omega) (by omega) (by omega) (by omega)), g_26⟩
