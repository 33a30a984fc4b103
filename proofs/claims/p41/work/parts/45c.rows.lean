abbrev qctX10_takes (M : zM) (w : Nat) (z : Int) (M' : zM) : Prop := (∀ u_ v_, (u_ ≠ 229 ∨ v_ ≠ 38) → M' u_ v_ = M u_ v_) ∧ (z = 0 ∨ (z = 1)) ∧ (M 229 38 ≤ M' 229 38) ∧ (M' 229 38 = M 229 38 ∨ M' 229 38 ≤ M 229 37)
set_option maxHeartbeats 4000000 in
set_option maxRecDepth 100000 in
theorem ctX10_takes (Γ : Gam) (M : zM) (w : Nat) (qw : String × Nat × String × Nat) (hw : sN[w]? = some qw) (hwn : qw.2.2.2 ≤ 100) (pre0 : 1 ≤ sln w) : CtI Γ yX10_takes cX10_takes 3 (some .boolean) 5 109 [aR Γ 229, sR Γ w] M (qctX10_takes M w) := by
  refine met_i (by decide) (Nat.le_of_ble_eq_true rfl) (fun x hx hr => ?_)
  show G Γ x 3 (QI Γ x (qctX10_takes M w)) M 0 [(0, aR Γ 229), (1, sR Γ w)] []
  refine g_iv (fun hI0 => ?_)
  have hI_37 : (0 : Int) ≤ M 229 37 ∧ M 229 37 ≤ 400 := hI0 229 37
  have hI_38 : (0 : Int) ≤ M 229 38 ∧ M 229 38 ≤ 402 := hI0 229 38
  have hI_45 : (0 : Int) ≤ M 229 45 ∧ M 229 45 ≤ 402 := hI0 229 45
  have hI_42 : (0 : Int) ≤ M 229 42 ∧ M 229 42 ≤ 300 := hI0 229 42
  have hI_39 : (0 : Int) ≤ M 229 39 ∧ M 229 39 ≤ 100000 := hI0 229 39
  have hI_40 : (0 : Int) ≤ M 229 40 ∧ M 229 40 ≤ 5 := hI0 229 40
  have hI_41 : (0 : Int) ≤ M 229 41 ∧ M 229 41 ≤ 6 := hI0 229 41
  clear hI0
  have hwl := sln_eq hw
  refine g_aload_n (n := 1) hx 0 (dq tX10_takes 0 rfl) rfl rfl ?_
  refine g_callVv (n := 4) (As := []) (rest := []) hx (ctX10_blanks Γ M ) mlX10_268 (obX10 (by decide)) (dq tX10_takes 1 rfl) rfl (Nat.le_of_ble_eq_true rfl) (Nat.le_of_ble_eq_true rfl) (Nat.le_of_ble_eq_true rfl) rfl (fun M_2 p_4 => ?_)
  obtain ⟨f_5, h_6, h_7⟩ := p_4
  refine g_aload_n (n := 5) hx 0 (dq tX10_takes 2 rfl) rfl rfl ?_
  refine g_aload_nS (n := 6) hx 1 (dq tX10_takes 3 rfl) rfl rfl ?_
  have e_8 : M_2 229 37 = M 229 37 := (f_5 229 37 (by omega))
  have e_9 : M_2 229 39 = M 229 39 := (f_5 229 39 (by omega))
  refine g_callVi (n := 9) (As := [sR Γ w]) (rest := []) hx (ctX10_stood Γ M_2 w _ hw hwn (by omega)) mlX10_271 (obX10 (by decide)) (dq tX10_takes 4 rfl) rfl (Nat.le_of_ble_eq_true rfl) (Nat.le_of_ble_eq_true rfl) (Nat.le_of_ble_eq_true rfl) rfl (fun z_10 M_11 h_12 p_13 => ?_)
  obtain ⟨rfl, b_15⟩ := p_13
  refine g_istore_n (n := 10) (lv' := [(2, vI z_10), (0, aR Γ 229), (1, sR Γ w)]) hx (dq tX10_takes 5 rfl) (by decide) rfl rfl ?_
  refine g_aload_n (n := 11) hx 1 (dq tX10_takes 6 rfl) rfl rfl ?_
  refine g_dup (n := 12) hx (dq tX10_takes 7 rfl) rfl rfl ?_
  refine g_getI (n := 15) hx glX10_249 (sX10_38 (by decide)) (dq tX10_takes 8 rfl) rfl (fun h_17l h_17u => ?_)
  refine g_iload_n (n := 16) hx 0 (dq tX10_takes 9 rfl) rfl rfl ?_
  refine g_if_eq (n := 19) (t := 26) hx (dq tX10_takes 10 rfl) (by decide) rfl h_12 (fun c_18 => ?_) (fun c_18 => ?_)
  · clear b_15
    refine g_iconst (n := 27) hx (dq tX10_takes 14 rfl) rfl ?_
    refine g_iadd (n := 28) hx (dq tX10_takes 15 rfl) rfl ?_
    refine g_putI (n := 31) hx plX10_249 (sX10_38 (by decide)) (dq tX10_takes 16 rfl) rfl (by omega) (by omega) (fun M_19 m_20e m_20 => ?_)
    refine g_iload_n (n := 32) hx 0 (dq tX10_takes 17 rfl) rfl rfl ?_
    have e_21 : M_19 229 37 = M_2 229 37 := (m_20 229 37 (by omega))
    have e_22 : M_19 229 39 = M_2 229 39 := (m_20 229 39 (by omega))
    exact g_zret hx hr (dq tX10_takes 18 rfl) (by omega) ⟨(fun u_ v_ huv_ => ((m_20 u_ v_ huv_).trans (f_5 u_ v_ huv_))), (by omega), (by omega), (by omega)⟩
  · have b_15 := b_15.resolve_left c_18
    obtain ⟨-, h_16⟩ := b_15
    refine g_aload_nS (n := 20) hx 2 (dq tX10_takes 11 rfl) rfl rfl ?_
    refine g_callSt (n := 23) (As := []) (rest := [vI (M_2 229 38), aR Γ 229]) hx (ctJ0_length_8abf5 Γ M_2 w _ hw) mlX10_260 rfl hw (dq tX10_takes 12 rfl) rfl (Nat.le_of_ble_eq_true rfl) (Nat.le_of_ble_eq_true rfl) (Nat.le_of_ble_eq_true rfl) rfl (fun z_23 M_24 h_25 p_26 => ?_)
    obtain ⟨rfl, h_27⟩ := p_26
    refine g_goto (n := 27) hx (dq tX10_takes 13 rfl) (by decide) ?_
    refine g_iadd (n := 28) hx (dq tX10_takes 15 rfl) rfl ?_
    refine g_putI (n := 31) hx plX10_249 (sX10_38 (by decide)) (dq tX10_takes 16 rfl) rfl (by omega) (by omega) (fun M_28 m_29e m_29 => ?_)
    refine g_iload_n (n := 32) hx 0 (dq tX10_takes 17 rfl) rfl rfl ?_
    have e_30 : M_28 229 37 = M_2 229 37 := (m_29 229 37 (by omega))
    have e_31 : M_28 229 39 = M_2 229 39 := (m_29 229 39 (by omega))
    exact g_zret hx hr (dq tX10_takes 18 rfl) (by omega) ⟨(fun u_ v_ huv_ => ((m_29 u_ v_ huv_).trans (f_5 u_ v_ huv_))), (by omega), (by omega), (by omega)⟩

abbrev qctX10_entry0 (M : zM) (k : Int) (v : Int) (ua : Int) (ud : Int) (un : Int) (us : Int) (M' : zM) : Prop := (∀ u_ v_, u_ ≠ 229 + 38 ∧ u_ ≠ 229 + 39 ∧ (u_ ≠ 229 ∨ v_ ≠ 42) → M' u_ v_ = M u_ v_) ∧ (Rd M' ua (ud + 1) un (us - 6)) ∧ (Kp M M')
set_option maxHeartbeats 4000000 in
set_option maxRecDepth 100000 in
theorem ctX10_entry0 (Γ : Gam) (M : zM) (k : Int) (hkl : 0 ≤ k) (hku : k ≤ 1) (v : Int) (hvl : (-2147483648) ≤ v) (hvu : v ≤ 2147483647) (ua : Int) (ud : Int) (un : Int) (us : Int) (pre0 : k = 1 → (0 ≤ v ∧ v ≤ 12)) (pre1 : 6 ≤ us) (ex0 : Rd M ua ud un us) : CtV Γ yX10_entry cX10_entry 3 none 0 0 [aR Γ 229, vI k, vI v] M (qctX10_entry0 M k v ua ud un us) := by
  refine met_v (by decide) (Nat.le_of_ble_eq_true rfl) (fun x hx hr => ?_)
  show G Γ x 3 (QV Γ x (qctX10_entry0 M k v ua ud un us)) M 0 [(0, aR Γ 229), (1, vI k), (2, vI v)] []
  refine g_iv (fun hI0 => ?_)
  have hI_37 : (0 : Int) ≤ M 229 37 ∧ M 229 37 ≤ 400 := hI0 229 37
  have hI_38 : (0 : Int) ≤ M 229 38 ∧ M 229 38 ≤ 402 := hI0 229 38
  have hI_45 : (0 : Int) ≤ M 229 45 ∧ M 229 45 ≤ 402 := hI0 229 45
  have hI_42 : (0 : Int) ≤ M 229 42 ∧ M 229 42 ≤ 300 := hI0 229 42
  have hI_39 : (0 : Int) ≤ M 229 39 ∧ M 229 39 ≤ 100000 := hI0 229 39
  have hI_40 : (0 : Int) ≤ M 229 40 ∧ M 229 40 ≤ 5 := hI0 229 40
  have hI_41 : (0 : Int) ≤ M 229 41 ∧ M 229 41 ≤ 6 := hI0 229 41
  clear hI0
  refine g_aload_n (n := 1) hx 0 (dq tX10_entry 0 rfl) rfl rfl ?_
  refine g_getI (n := 4) hx glX10_246 (sX10_39 (by decide)) (dq tX10_entry 1 rfl) rfl (fun h_1l h_1u => ?_)
  refine g_if_ne (n := 7) (t := 55) hx (dq tX10_entry 2 rfl) (by decide) rfl (zrI h_1l h_1u (by decide) (by decide)) (fun c_2 => ?_) (fun c_2 => ?_)
  · exact g_vret hx hr (dq tX10_entry 31 rfl) ⟨(fun _ _ _ => rfl), (Rd.vac (by omega)), Kp.refl⟩
  · obtain ⟨hn1, hn2, hn3, hn4, hn5, hn6, hn7⟩ := Rd.nums ex0 (by omega)
    refine g_iv (fun hI => ?_)
    have hI7 : (0 : Int) ≤ M 229 37 ∧ M 229 37 ≤ 400 := hI 229 37
    clear hI
    refine g_aload_n (n := 8) hx 0 (dq tX10_entry 3 rfl) rfl rfl ?_
    refine g_getR (n := 11) hx glX10_126 (sX10_49 (by decide)) (dq tX10_entry 4 rfl) rfl ?_
    refine g_sipush (n := 14) hx (dq tX10_entry 5 rfl) rfl (by decide) ?_
    refine g_aload_n (n := 15) hx 0 (dq tX10_entry 6 rfl) rfl rfl ?_
    refine g_getI (n := 18) hx glX10_275 (sX10_40 (by decide)) (dq tX10_entry 7 rfl) rfl (fun h_3l h_3u => ?_)
    refine g_imul (n := 19) hx (dq tX10_entry 8 rfl) rfl ?_
    refine g_aload_n (n := 20) hx 0 (dq tX10_entry 9 rfl) rfl rfl ?_
    refine g_getI (n := 23) hx glX10_278 (sX10_42 (by decide)) (dq tX10_entry 10 rfl) rfl (fun h_4l h_4u => ?_)
    refine g_iadd (n := 24) hx (dq tX10_entry 11 rfl) rfl ?_
    refine g_iload_n (n := 25) hx 1 (dq tX10_entry 12 rfl) rfl rfl ?_
    refine g_iast (n := 26) (q := ((300 * (M 229 40)) + (M 229 42)).toNat) hx (aX10_49 (b := 229) (by decide)) (dq tX10_entry 13 rfl) rfl (by omega) (by omega) (by omega) rfl (by omega) (by omega) (fun M_5 m_6e m_6 => ?_)
    have g_7 := Kp.row Kp.refl (by omega) (by omega) m_6
    refine g_aload_n (n := 27) hx 0 (dq tX10_entry 14 rfl) rfl rfl ?_
    refine g_getR (n := 30) hx glX10_129 (sX10_50 (by decide)) (dq tX10_entry 15 rfl) rfl ?_
    refine g_sipush (n := 33) hx (dq tX10_entry 16 rfl) rfl (by decide) ?_
    refine g_aload_n (n := 34) hx 0 (dq tX10_entry 17 rfl) rfl rfl ?_
    refine g_getI (n := 37) hx glX10_275 (sX10_40 (by decide)) (dq tX10_entry 18 rfl) rfl (fun h_8l h_8u => ?_)
    have e_9 : M_5 229 40 = M 229 40 := (m_6 229 40 (by omega))
    refine g_imul (n := 38) hx (dq tX10_entry 19 rfl) rfl ?_
    refine g_aload_n (n := 39) hx 0 (dq tX10_entry 20 rfl) rfl rfl ?_
    refine g_getI (n := 42) hx glX10_278 (sX10_42 (by decide)) (dq tX10_entry 21 rfl) rfl (fun h_10l h_10u => ?_)
    have e_11 : M_5 229 42 = M 229 42 := (m_6 229 42 (by omega))
    refine g_iadd (n := 43) hx (dq tX10_entry 22 rfl) rfl ?_
    refine g_iload_n (n := 44) hx 2 (dq tX10_entry 23 rfl) rfl rfl ?_
    have e_12 : M_5 229 37 = M 229 37 := (m_6 229 37 (by omega))
    have e_13 : M_5 229 38 = M 229 38 := (m_6 229 38 (by omega))
    have e_14 : M_5 229 39 = M 229 39 := (m_6 229 39 (by omega))
    refine g_iast (n := 45) (q := ((300 * (M_5 229 40)) + (M_5 229 42)).toNat) hx (aX10_50 (b := 229) (by decide)) (dq tX10_entry 24 rfl) rfl (by omega) (by omega) (by omega) rfl (by omega) (by omega) (fun M_15 m_16e m_16 => ?_)
    have g_17 := Kp.row g_7 (by omega) (by omega) m_16
    refine g_aload_n (n := 46) hx 0 (dq tX10_entry 25 rfl) rfl rfl ?_
    refine g_dup (n := 47) hx (dq tX10_entry 26 rfl) rfl rfl ?_
    refine g_getI (n := 50) hx glX10_278 (sX10_42 (by decide)) (dq tX10_entry 27 rfl) rfl (fun h_18l h_18u => ?_)
    have e_19 : M_15 229 42 = M_5 229 42 := (m_16 229 42 (by omega))
    refine g_iconst (n := 51) hx (dq tX10_entry 28 rfl) rfl ?_
    refine g_iadd (n := 52) hx (dq tX10_entry 29 rfl) rfl ?_
    have e_20 : M_15 229 37 = M_5 229 37 := (m_16 229 37 (by omega))
    have e_21 : M_15 229 38 = M_5 229 38 := (m_16 229 38 (by omega))
    have e_22 : M_15 229 39 = M_5 229 39 := (m_16 229 39 (by omega))
    have e_23 : M_15 229 40 = M_5 229 40 := (m_16 229 40 (by omega))
    refine g_putI (n := 55) hx plX10_278 (sX10_42 (by decide)) (dq tX10_entry 30 rfl) rfl (by omega) (by omega) (fun M_24 m_25e m_25 => ?_)
    have g_26 := Kp.ent g_17 m_25e (by omega) m_25
    have e_27 : M_24 229 37 = M_15 229 37 := (m_25 229 37 (by omega))
    have e_28 : M_24 229 38 = M_15 229 38 := (m_25 229 38 (by omega))
    have e_29 : M_24 229 39 = M_15 229 39 := (m_25 229 39 (by omega))
    have e_30 : M_24 229 40 = M_15 229 40 := (m_25 229 40 (by omega))
    exact g_vret hx hr (dq tX10_entry 31 rfl) ⟨(fun u_ v_ huv_ => (((m_25 u_ v_ huv_.2.2).trans (m_16 u_ v_ (by omega))).trans (m_6 u_ v_ (by omega)))), (Rd.ent ex0 (by omega) (by omega) (by omega) (by omega) (by omega) m_6e m_6 m_16e m_16 m_25e (by omega) m_25 (by omega) (by omega) (by omega) (by omega) (by omega)), g_26⟩

abbrev qctX10_entry9 (M : zM) (k : Int) (v : Int) (ua : Int) (ud : Int) (un : Int) (us : Int) (M' : zM) : Prop := (∀ u_ v_, u_ ≠ 229 + 38 ∧ u_ ≠ 229 + 39 ∧ (u_ ≠ 229 ∨ v_ ≠ 42) → M' u_ v_ = M u_ v_) ∧ (Rd M' ua ud (un - 1) us) ∧ (Kp M M')
set_option maxHeartbeats 4000000 in
set_option maxRecDepth 100000 in
theorem ctX10_entry9 (Γ : Gam) (M : zM) (k : Int) (hkl : 9 ≤ k) (hku : k ≤ 9) (v : Int) (hvl : (-2147483648) ≤ v) (hvu : v ≤ 2147483647) (ua : Int) (ud : Int) (un : Int) (us : Int) (pre0 : 1 ≤ ud) (pre1 : 1 ≤ un) (pre2 : 0 ≤ us) (ex0 : Rd M ua ud un us) : CtV Γ yX10_entry cX10_entry 3 none 0 0 [aR Γ 229, vI k, vI v] M (qctX10_entry9 M k v ua ud un us) := by
  refine met_v (by decide) (Nat.le_of_ble_eq_true rfl) (fun x hx hr => ?_)
  show G Γ x 3 (QV Γ x (qctX10_entry9 M k v ua ud un us)) M 0 [(0, aR Γ 229), (1, vI k), (2, vI v)] []
  refine g_iv (fun hI0 => ?_)
  have hI_37 : (0 : Int) ≤ M 229 37 ∧ M 229 37 ≤ 400 := hI0 229 37
  have hI_38 : (0 : Int) ≤ M 229 38 ∧ M 229 38 ≤ 402 := hI0 229 38
  have hI_45 : (0 : Int) ≤ M 229 45 ∧ M 229 45 ≤ 402 := hI0 229 45
  have hI_42 : (0 : Int) ≤ M 229 42 ∧ M 229 42 ≤ 300 := hI0 229 42
  have hI_39 : (0 : Int) ≤ M 229 39 ∧ M 229 39 ≤ 100000 := hI0 229 39
  have hI_40 : (0 : Int) ≤ M 229 40 ∧ M 229 40 ≤ 5 := hI0 229 40
  have hI_41 : (0 : Int) ≤ M 229 41 ∧ M 229 41 ≤ 6 := hI0 229 41
  clear hI0
  refine g_aload_n (n := 1) hx 0 (dq tX10_entry 0 rfl) rfl rfl ?_
  refine g_getI (n := 4) hx glX10_246 (sX10_39 (by decide)) (dq tX10_entry 1 rfl) rfl (fun h_1l h_1u => ?_)
  refine g_if_ne (n := 7) (t := 55) hx (dq tX10_entry 2 rfl) (by decide) rfl (zrI h_1l h_1u (by decide) (by decide)) (fun c_2 => ?_) (fun c_2 => ?_)
  · exact g_vret hx hr (dq tX10_entry 31 rfl) ⟨(fun _ _ _ => rfl), (Rd.vac (by omega)), Kp.refl⟩
  · obtain ⟨hn1, hn2, hn3, hn4, hn5, hn6, hn7⟩ := Rd.nums ex0 (by omega)
    refine g_iv (fun hI => ?_)
    have hI7 : (0 : Int) ≤ M 229 37 ∧ M 229 37 ≤ 400 := hI 229 37
    clear hI
    refine g_aload_n (n := 8) hx 0 (dq tX10_entry 3 rfl) rfl rfl ?_
    refine g_getR (n := 11) hx glX10_126 (sX10_49 (by decide)) (dq tX10_entry 4 rfl) rfl ?_
    refine g_sipush (n := 14) hx (dq tX10_entry 5 rfl) rfl (by decide) ?_
    refine g_aload_n (n := 15) hx 0 (dq tX10_entry 6 rfl) rfl rfl ?_
    refine g_getI (n := 18) hx glX10_275 (sX10_40 (by decide)) (dq tX10_entry 7 rfl) rfl (fun h_3l h_3u => ?_)
    refine g_imul (n := 19) hx (dq tX10_entry 8 rfl) rfl ?_
    refine g_aload_n (n := 20) hx 0 (dq tX10_entry 9 rfl) rfl rfl ?_
    refine g_getI (n := 23) hx glX10_278 (sX10_42 (by decide)) (dq tX10_entry 10 rfl) rfl (fun h_4l h_4u => ?_)
    refine g_iadd (n := 24) hx (dq tX10_entry 11 rfl) rfl ?_
    refine g_iload_n (n := 25) hx 1 (dq tX10_entry 12 rfl) rfl rfl ?_
    refine g_iast (n := 26) (q := ((300 * (M 229 40)) + (M 229 42)).toNat) hx (aX10_49 (b := 229) (by decide)) (dq tX10_entry 13 rfl) rfl (by omega) (by omega) (by omega) rfl (by omega) (by omega) (fun M_5 m_6e m_6 => ?_)
    have g_7 := Kp.row Kp.refl (by omega) (by omega) m_6
    refine g_aload_n (n := 27) hx 0 (dq tX10_entry 14 rfl) rfl rfl ?_
    refine g_getR (n := 30) hx glX10_129 (sX10_50 (by decide)) (dq tX10_entry 15 rfl) rfl ?_
    refine g_sipush (n := 33) hx (dq tX10_entry 16 rfl) rfl (by decide) ?_
    refine g_aload_n (n := 34) hx 0 (dq tX10_entry 17 rfl) rfl rfl ?_
    refine g_getI (n := 37) hx glX10_275 (sX10_40 (by decide)) (dq tX10_entry 18 rfl) rfl (fun h_8l h_8u => ?_)
    have e_9 : M_5 229 40 = M 229 40 := (m_6 229 40 (by omega))
    refine g_imul (n := 38) hx (dq tX10_entry 19 rfl) rfl ?_
    refine g_aload_n (n := 39) hx 0 (dq tX10_entry 20 rfl) rfl rfl ?_
    refine g_getI (n := 42) hx glX10_278 (sX10_42 (by decide)) (dq tX10_entry 21 rfl) rfl (fun h_10l h_10u => ?_)
    have e_11 : M_5 229 42 = M 229 42 := (m_6 229 42 (by omega))
    refine g_iadd (n := 43) hx (dq tX10_entry 22 rfl) rfl ?_
    refine g_iload_n (n := 44) hx 2 (dq tX10_entry 23 rfl) rfl rfl ?_
    have e_12 : M_5 229 37 = M 229 37 := (m_6 229 37 (by omega))
    have e_13 : M_5 229 38 = M 229 38 := (m_6 229 38 (by omega))
    have e_14 : M_5 229 39 = M 229 39 := (m_6 229 39 (by omega))
    refine g_iast (n := 45) (q := ((300 * (M_5 229 40)) + (M_5 229 42)).toNat) hx (aX10_50 (b := 229) (by decide)) (dq tX10_entry 24 rfl) rfl (by omega) (by omega) (by omega) rfl (by omega) (by omega) (fun M_15 m_16e m_16 => ?_)
    have g_17 := Kp.row g_7 (by omega) (by omega) m_16
    refine g_aload_n (n := 46) hx 0 (dq tX10_entry 25 rfl) rfl rfl ?_
    refine g_dup (n := 47) hx (dq tX10_entry 26 rfl) rfl rfl ?_
    refine g_getI (n := 50) hx glX10_278 (sX10_42 (by decide)) (dq tX10_entry 27 rfl) rfl (fun h_18l h_18u => ?_)
    have e_19 : M_15 229 42 = M_5 229 42 := (m_16 229 42 (by omega))
    refine g_iconst (n := 51) hx (dq tX10_entry 28 rfl) rfl ?_
    refine g_iadd (n := 52) hx (dq tX10_entry 29 rfl) rfl ?_
    have e_20 : M_15 229 37 = M_5 229 37 := (m_16 229 37 (by omega))
    have e_21 : M_15 229 38 = M_5 229 38 := (m_16 229 38 (by omega))
    have e_22 : M_15 229 39 = M_5 229 39 := (m_16 229 39 (by omega))
    have e_23 : M_15 229 40 = M_5 229 40 := (m_16 229 40 (by omega))
    refine g_putI (n := 55) hx plX10_278 (sX10_42 (by decide)) (dq tX10_entry 30 rfl) rfl (by omega) (by omega) (fun M_24 m_25e m_25 => ?_)
    have g_26 := Kp.ent g_17 m_25e (by omega) m_25
    have e_27 : M_24 229 37 = M_15 229 37 := (m_25 229 37 (by omega))
    have e_28 : M_24 229 38 = M_15 229 38 := (m_25 229 38 (by omega))
    have e_29 : M_24 229 39 = M_15 229 39 := (m_25 229 39 (by omega))
    have e_30 : M_24 229 40 = M_15 229 40 := (m_25 229 40 (by omega))
    exact g_vret hx hr (dq tX10_entry 31 rfl) ⟨(fun u_ v_ huv_ => (((m_25 u_ v_ huv_.2.2).trans (m_16 u_ v_ (by omega))).trans (m_6 u_ v_ (by omega)))), (Rd.ent ex0 (by omega) (by omega) (by omega) (by omega) (by omega) m_6e m_6 m_16e m_16 m_25e (by omega) m_25 (by omega) (by omega) (by omega) (by omega) (by omega)), g_26⟩

abbrev qctX10_entry2 (M : zM) (k : Int) (v : Int) (ua : Int) (ud : Int) (un : Int) (us : Int) (M' : zM) : Prop := (∀ u_ v_, u_ ≠ 229 + 38 ∧ u_ ≠ 229 + 39 ∧ (u_ ≠ 229 ∨ v_ ≠ 42) → M' u_ v_ = M u_ v_) ∧ (Rd M' ua (ud - 1) un us) ∧ (Kp M M')
set_option maxHeartbeats 4000000 in
set_option maxRecDepth 100000 in
theorem ctX10_entry2 (Γ : Gam) (M : zM) (k : Int) (hkl : 2 ≤ k) (hku : k ≤ 15) (v : Int) (hvl : (-2147483648) ≤ v) (hvu : v ≤ 2147483647) (ua : Int) (ud : Int) (un : Int) (us : Int) (pre0 : k ≠ 9) (pre1 : 2 ≤ ud) (pre2 : 0 ≤ us) (ex0 : Rd M ua ud un us) : CtV Γ yX10_entry cX10_entry 3 none 0 0 [aR Γ 229, vI k, vI v] M (qctX10_entry2 M k v ua ud un us) := by
  refine met_v (by decide) (Nat.le_of_ble_eq_true rfl) (fun x hx hr => ?_)
  show G Γ x 3 (QV Γ x (qctX10_entry2 M k v ua ud un us)) M 0 [(0, aR Γ 229), (1, vI k), (2, vI v)] []
  refine g_iv (fun hI0 => ?_)
  have hI_37 : (0 : Int) ≤ M 229 37 ∧ M 229 37 ≤ 400 := hI0 229 37
  have hI_38 : (0 : Int) ≤ M 229 38 ∧ M 229 38 ≤ 402 := hI0 229 38
  have hI_45 : (0 : Int) ≤ M 229 45 ∧ M 229 45 ≤ 402 := hI0 229 45
  have hI_42 : (0 : Int) ≤ M 229 42 ∧ M 229 42 ≤ 300 := hI0 229 42
  have hI_39 : (0 : Int) ≤ M 229 39 ∧ M 229 39 ≤ 100000 := hI0 229 39
  have hI_40 : (0 : Int) ≤ M 229 40 ∧ M 229 40 ≤ 5 := hI0 229 40
  have hI_41 : (0 : Int) ≤ M 229 41 ∧ M 229 41 ≤ 6 := hI0 229 41
  clear hI0
  refine g_aload_n (n := 1) hx 0 (dq tX10_entry 0 rfl) rfl rfl ?_
  refine g_getI (n := 4) hx glX10_246 (sX10_39 (by decide)) (dq tX10_entry 1 rfl) rfl (fun h_1l h_1u => ?_)
  refine g_if_ne (n := 7) (t := 55) hx (dq tX10_entry 2 rfl) (by decide) rfl (zrI h_1l h_1u (by decide) (by decide)) (fun c_2 => ?_) (fun c_2 => ?_)
  · exact g_vret hx hr (dq tX10_entry 31 rfl) ⟨(fun _ _ _ => rfl), (Rd.vac (by omega)), Kp.refl⟩
  · obtain ⟨hn1, hn2, hn3, hn4, hn5, hn6, hn7⟩ := Rd.nums ex0 (by omega)
    refine g_iv (fun hI => ?_)
    have hI7 : (0 : Int) ≤ M 229 37 ∧ M 229 37 ≤ 400 := hI 229 37
    clear hI
    refine g_aload_n (n := 8) hx 0 (dq tX10_entry 3 rfl) rfl rfl ?_
    refine g_getR (n := 11) hx glX10_126 (sX10_49 (by decide)) (dq tX10_entry 4 rfl) rfl ?_
    refine g_sipush (n := 14) hx (dq tX10_entry 5 rfl) rfl (by decide) ?_
    refine g_aload_n (n := 15) hx 0 (dq tX10_entry 6 rfl) rfl rfl ?_
    refine g_getI (n := 18) hx glX10_275 (sX10_40 (by decide)) (dq tX10_entry 7 rfl) rfl (fun h_3l h_3u => ?_)
    refine g_imul (n := 19) hx (dq tX10_entry 8 rfl) rfl ?_
    refine g_aload_n (n := 20) hx 0 (dq tX10_entry 9 rfl) rfl rfl ?_
    refine g_getI (n := 23) hx glX10_278 (sX10_42 (by decide)) (dq tX10_entry 10 rfl) rfl (fun h_4l h_4u => ?_)
    refine g_iadd (n := 24) hx (dq tX10_entry 11 rfl) rfl ?_
    refine g_iload_n (n := 25) hx 1 (dq tX10_entry 12 rfl) rfl rfl ?_
    refine g_iast (n := 26) (q := ((300 * (M 229 40)) + (M 229 42)).toNat) hx (aX10_49 (b := 229) (by decide)) (dq tX10_entry 13 rfl) rfl (by omega) (by omega) (by omega) rfl (by omega) (by omega) (fun M_5 m_6e m_6 => ?_)
    have g_7 := Kp.row Kp.refl (by omega) (by omega) m_6
    refine g_aload_n (n := 27) hx 0 (dq tX10_entry 14 rfl) rfl rfl ?_
    refine g_getR (n := 30) hx glX10_129 (sX10_50 (by decide)) (dq tX10_entry 15 rfl) rfl ?_
    refine g_sipush (n := 33) hx (dq tX10_entry 16 rfl) rfl (by decide) ?_
    refine g_aload_n (n := 34) hx 0 (dq tX10_entry 17 rfl) rfl rfl ?_
    refine g_getI (n := 37) hx glX10_275 (sX10_40 (by decide)) (dq tX10_entry 18 rfl) rfl (fun h_8l h_8u => ?_)
    have e_9 : M_5 229 40 = M 229 40 := (m_6 229 40 (by omega))
    refine g_imul (n := 38) hx (dq tX10_entry 19 rfl) rfl ?_
    refine g_aload_n (n := 39) hx 0 (dq tX10_entry 20 rfl) rfl rfl ?_
    refine g_getI (n := 42) hx glX10_278 (sX10_42 (by decide)) (dq tX10_entry 21 rfl) rfl (fun h_10l h_10u => ?_)
    have e_11 : M_5 229 42 = M 229 42 := (m_6 229 42 (by omega))
    refine g_iadd (n := 43) hx (dq tX10_entry 22 rfl) rfl ?_
    refine g_iload_n (n := 44) hx 2 (dq tX10_entry 23 rfl) rfl rfl ?_
    have e_12 : M_5 229 37 = M 229 37 := (m_6 229 37 (by omega))
    have e_13 : M_5 229 38 = M 229 38 := (m_6 229 38 (by omega))
    have e_14 : M_5 229 39 = M 229 39 := (m_6 229 39 (by omega))
    refine g_iast (n := 45) (q := ((300 * (M_5 229 40)) + (M_5 229 42)).toNat) hx (aX10_50 (b := 229) (by decide)) (dq tX10_entry 24 rfl) rfl (by omega) (by omega) (by omega) rfl (by omega) (by omega) (fun M_15 m_16e m_16 => ?_)
    have g_17 := Kp.row g_7 (by omega) (by omega) m_16
    refine g_aload_n (n := 46) hx 0 (dq tX10_entry 25 rfl) rfl rfl ?_
    refine g_dup (n := 47) hx (dq tX10_entry 26 rfl) rfl rfl ?_
    refine g_getI (n := 50) hx glX10_278 (sX10_42 (by decide)) (dq tX10_entry 27 rfl) rfl (fun h_18l h_18u => ?_)
    have e_19 : M_15 229 42 = M_5 229 42 := (m_16 229 42 (by omega))
    refine g_iconst (n := 51) hx (dq tX10_entry 28 rfl) rfl ?_
    refine g_iadd (n := 52) hx (dq tX10_entry 29 rfl) rfl ?_
    have e_20 : M_15 229 37 = M_5 229 37 := (m_16 229 37 (by omega))
    have e_21 : M_15 229 38 = M_5 229 38 := (m_16 229 38 (by omega))
    have e_22 : M_15 229 39 = M_5 229 39 := (m_16 229 39 (by omega))
    have e_23 : M_15 229 40 = M_5 229 40 := (m_16 229 40 (by omega))
    refine g_putI (n := 55) hx plX10_278 (sX10_42 (by decide)) (dq tX10_entry 30 rfl) rfl (by omega) (by omega) (fun M_24 m_25e m_25 => ?_)
    have g_26 := Kp.ent g_17 m_25e (by omega) m_25
    have e_27 : M_24 229 37 = M_15 229 37 := (m_25 229 37 (by omega))
    have e_28 : M_24 229 38 = M_15 229 38 := (m_25 229 38 (by omega))
    have e_29 : M_24 229 39 = M_15 229 39 := (m_25 229 39 (by omega))
    have e_30 : M_24 229 40 = M_15 229 40 := (m_25 229 40 (by omega))
    exact g_vret hx hr (dq tX10_entry 31 rfl) ⟨(fun u_ v_ huv_ => (((m_25 u_ v_ huv_.2.2).trans (m_16 u_ v_ (by omega))).trans (m_6 u_ v_ (by omega)))), (Rd.ent ex0 (by omega) (by omega) (by omega) (by omega) (by omega) m_6e m_6 m_16e m_16 m_25e (by omega) m_25 (by omega) (by omega) (by omega) (by omega) (by omega)), g_26⟩

abbrev qctX10_isCounted (M : zM) (place : Int) (ua : Int) (ud : Int) (un : Int) (us : Int) (M' : zM) : Prop := (∀ u_ v_, (u_ ≠ 229 ∨ v_ ≠ 39) ∧ (u_ ≠ 229 ∨ v_ ≠ 44) → M' u_ v_ = M u_ v_) ∧ (Rd M' ua ud un (us + 6)) ∧ (M' 229 39 = 0 → M 229 39 = 0)
set_option maxHeartbeats 4000000 in
set_option maxRecDepth 100000 in
theorem ctX10_isCounted (Γ : Gam) (M : zM) (place : Int) (hplacel : 0 ≤ place) (hplaceu : place ≤ 402) (ua : Int) (ud : Int) (un : Int) (us : Int) (ex0 : Rd M ua ud un us) : CtV Γ yX10_isCounted cX10_isCounted 2 none 1 22 [aR Γ 229, vI place] M (qctX10_isCounted M place ua ud un us) := by
  refine met_v (by decide) (Nat.le_of_ble_eq_true rfl) (fun x hx hr => ?_)
  show G Γ x 2 (QV Γ x (qctX10_isCounted M place ua ud un us)) M 0 [(0, aR Γ 229), (1, vI place)] []
  refine g_iv (fun hI0 => ?_)
  have hI_37 : (0 : Int) ≤ M 229 37 ∧ M 229 37 ≤ 400 := hI0 229 37
  have hI_38 : (0 : Int) ≤ M 229 38 ∧ M 229 38 ≤ 402 := hI0 229 38
  have hI_45 : (0 : Int) ≤ M 229 45 ∧ M 229 45 ≤ 402 := hI0 229 45
  have hI_42 : (0 : Int) ≤ M 229 42 ∧ M 229 42 ≤ 300 := hI0 229 42
  have hI_39 : (0 : Int) ≤ M 229 39 ∧ M 229 39 ≤ 100000 := hI0 229 39
  have hI_40 : (0 : Int) ≤ M 229 40 ∧ M 229 40 ≤ 5 := hI0 229 40
  have hI_41 : (0 : Int) ≤ M 229 41 ∧ M 229 41 ≤ 6 := hI0 229 41
  clear hI0
  by_cases hq : M 229 39 = 0
  · have hn0 := (Rd.nums ex0 hq).2.1
    refine g_aload_n (n := 1) hx 0 (dq tX10_isCounted 0 rfl) rfl rfl ?_
    refine g_getI (n := 4) hx glX10_281 (sX10_44 (by decide)) (dq tX10_isCounted 1 rfl) rfl (fun h_1l h_1u => ?_)
    refine g_bipush (n := 6) hx (dq tX10_isCounted 2 rfl) rfl (by decide) ?_
    refine g_icmp_ne (n := 9) (t := 15) hx (dq tX10_isCounted 3 rfl) (by decide) rfl (zrI h_1l h_1u (by decide) (by decide)) ⟨by decide, by decide⟩ (fun c_2 => ?_) (fun c_2 => ?_)
    · refine g_aload_n (n := 16) hx 0 (dq tX10_isCounted 8 rfl) rfl rfl ?_
      refine g_dup (n := 17) hx (dq tX10_isCounted 9 rfl) rfl rfl ?_
      refine g_getI (n := 20) hx glX10_281 (sX10_44 (by decide)) (dq tX10_isCounted 10 rfl) rfl (fun h_3l h_3u => ?_)
      refine g_iconst (n := 21) hx (dq tX10_isCounted 11 rfl) rfl ?_
      refine g_iadd (n := 22) hx (dq tX10_isCounted 12 rfl) rfl ?_
      refine g_putI (n := 25) hx plX10_281 (sX10_44 (by decide)) (dq tX10_isCounted 13 rfl) rfl (by omega) (by omega) (fun M_4 m_5e m_5 => ?_)
      have e_6 : M_4 229 37 = M 229 37 := (m_5 229 37 (by omega))
      have e_7 : M_4 229 38 = M 229 38 := (m_5 229 38 (by omega))
      have e_8 : M_4 229 39 = M 229 39 := (m_5 229 39 (by omega))
      exact g_vret hx hr (dq tX10_isCounted 14 rfl) ⟨(fun u_ v_ huv_ => (m_5 u_ v_ huv_.2)), (Rd.ct ex0 (fun c j q => m_5 c j (by omega)) (fun _ => ⟨by omega, m_5e, by omega⟩)), (by omega)⟩
    · refine g_aload_n (n := 10) hx 0 (dq tX10_isCounted 4 rfl) rfl rfl ?_
      refine g_iconst (n := 11) hx (dq tX10_isCounted 5 rfl) rfl ?_
      refine g_iload_n (n := 12) hx 1 (dq tX10_isCounted 6 rfl) rfl rfl ?_
      refine g_callVv (n := 15) (As := [vI 3, vI place]) (rest := []) hx (ctX10_fails Γ M 3 (by decide) (by decide) place (by omega) (by omega)) mlX10_284 (obX10 (by decide)) (dq tX10_isCounted 7 rfl) rfl (Nat.le_of_ble_eq_true rfl) (Nat.le_of_ble_eq_true rfl) (Nat.le_of_ble_eq_true rfl) rfl (fun M_10 p_12 => ?_)
      obtain ⟨f_13, h_14⟩ := p_12
      refine g_aload_n (n := 16) hx 0 (dq tX10_isCounted 8 rfl) rfl rfl ?_
      refine g_dup (n := 17) hx (dq tX10_isCounted 9 rfl) rfl rfl ?_
      refine g_getI (n := 20) hx glX10_281 (sX10_44 (by decide)) (dq tX10_isCounted 10 rfl) rfl (fun h_15l h_15u => ?_)
      have e_16 : M_10 229 44 = M 229 44 := (f_13 229 44 (by omega))
      refine g_iconst (n := 21) hx (dq tX10_isCounted 11 rfl) rfl ?_
      refine g_iadd (n := 22) hx (dq tX10_isCounted 12 rfl) rfl ?_
      refine g_any (fun z_17 h_18 => ?_)
      have e_19 : M_10 229 37 = M 229 37 := (f_13 229 37 (by omega))
      have e_20 : M_10 229 38 = M 229 38 := (f_13 229 38 (by omega))
      refine g_putI (n := 25) hx plX10_281 (sX10_44 (by decide)) (dq tX10_isCounted 13 rfl) rfl (by omega) (by omega) (fun M_21 m_22e m_22 => ?_)
      have e_23 : M_21 229 37 = M_10 229 37 := (m_22 229 37 (by omega))
      have e_24 : M_21 229 38 = M_10 229 38 := (m_22 229 38 (by omega))
      have e_25 : M_21 229 39 = M_10 229 39 := (m_22 229 39 (by omega))
      exact g_vret hx hr (dq tX10_isCounted 14 rfl) ⟨(fun u_ v_ huv_ => ((m_22 u_ v_ huv_.2).trans (f_13 u_ v_ huv_.1))), (Rd.vac (by omega)), (by omega)⟩
  · refine g_aload_n (n := 1) hx 0 (dq tX10_isCounted 0 rfl) rfl rfl ?_
    refine g_getI (n := 4) hx glX10_281 (sX10_44 (by decide)) (dq tX10_isCounted 1 rfl) rfl (fun h_26l h_26u => ?_)
    refine g_bipush (n := 6) hx (dq tX10_isCounted 2 rfl) rfl (by decide) ?_
    refine g_icmp_ne (n := 9) (t := 15) hx (dq tX10_isCounted 3 rfl) (by decide) rfl (zrI h_26l h_26u (by decide) (by decide)) ⟨by decide, by decide⟩ (fun c_27 => ?_) (fun c_27 => ?_)
    · refine g_aload_n (n := 16) hx 0 (dq tX10_isCounted 8 rfl) rfl rfl ?_
      refine g_dup (n := 17) hx (dq tX10_isCounted 9 rfl) rfl rfl ?_
      refine g_getI (n := 20) hx glX10_281 (sX10_44 (by decide)) (dq tX10_isCounted 10 rfl) rfl (fun h_28l h_28u => ?_)
      refine g_iconst (n := 21) hx (dq tX10_isCounted 11 rfl) rfl ?_
      refine g_iadd (n := 22) hx (dq tX10_isCounted 12 rfl) rfl ?_
      refine g_any (fun z_29 h_30 => ?_)
      refine g_putI (n := 25) hx plX10_281 (sX10_44 (by decide)) (dq tX10_isCounted 13 rfl) rfl (by omega) (by omega) (fun M_31 m_32e m_32 => ?_)
      have e_33 : M_31 229 37 = M 229 37 := (m_32 229 37 (by omega))
      have e_34 : M_31 229 38 = M 229 38 := (m_32 229 38 (by omega))
      have e_35 : M_31 229 39 = M 229 39 := (m_32 229 39 (by omega))
      exact g_vret hx hr (dq tX10_isCounted 14 rfl) ⟨(fun u_ v_ huv_ => (m_32 u_ v_ huv_.2)), (Rd.vac (by omega)), (by omega)⟩
    · refine g_aload_n (n := 10) hx 0 (dq tX10_isCounted 4 rfl) rfl rfl ?_
      refine g_iconst (n := 11) hx (dq tX10_isCounted 5 rfl) rfl ?_
      refine g_iload_n (n := 12) hx 1 (dq tX10_isCounted 6 rfl) rfl rfl ?_
      refine g_callVv (n := 15) (As := [vI 3, vI place]) (rest := []) hx (ctX10_fails Γ M 3 (by decide) (by decide) place (by omega) (by omega)) mlX10_284 (obX10 (by decide)) (dq tX10_isCounted 7 rfl) rfl (Nat.le_of_ble_eq_true rfl) (Nat.le_of_ble_eq_true rfl) (Nat.le_of_ble_eq_true rfl) rfl (fun M_37 p_39 => ?_)
      obtain ⟨f_40, h_41⟩ := p_39
      refine g_aload_n (n := 16) hx 0 (dq tX10_isCounted 8 rfl) rfl rfl ?_
      refine g_dup (n := 17) hx (dq tX10_isCounted 9 rfl) rfl rfl ?_
      refine g_getI (n := 20) hx glX10_281 (sX10_44 (by decide)) (dq tX10_isCounted 10 rfl) rfl (fun h_42l h_42u => ?_)
      have e_43 : M_37 229 44 = M 229 44 := (f_40 229 44 (by omega))
      refine g_iconst (n := 21) hx (dq tX10_isCounted 11 rfl) rfl ?_
      refine g_iadd (n := 22) hx (dq tX10_isCounted 12 rfl) rfl ?_
      refine g_any (fun z_44 h_45 => ?_)
      have e_46 : M_37 229 37 = M 229 37 := (f_40 229 37 (by omega))
      have e_47 : M_37 229 38 = M 229 38 := (f_40 229 38 (by omega))
      refine g_putI (n := 25) hx plX10_281 (sX10_44 (by decide)) (dq tX10_isCounted 13 rfl) rfl (by omega) (by omega) (fun M_48 m_49e m_49 => ?_)
      have e_50 : M_48 229 37 = M_37 229 37 := (m_49 229 37 (by omega))
      have e_51 : M_48 229 38 = M_37 229 38 := (m_49 229 38 (by omega))
      have e_52 : M_48 229 39 = M_37 229 39 := (m_49 229 39 (by omega))
      exact g_vret hx hr (dq tX10_isCounted 14 rfl) ⟨(fun u_ v_ huv_ => ((m_49 u_ v_ huv_.2).trans (f_40 u_ v_ huv_.1))), (Rd.vac (by omega)), (by omega)⟩

abbrev qctX10_digits (M : zM) (most : Int) (z : Int) (M' : zM) : Prop := (∀ u_ v_, (u_ ≠ 229 ∨ v_ ≠ 38) ∧ (u_ ≠ 229 ∨ v_ ≠ 39) → M' u_ v_ = M u_ v_) ∧ (M 229 38 ≤ M' 229 38) ∧ (M' 229 38 = M 229 38 ∨ M' 229 38 ≤ M 229 37) ∧ (M' 229 39 = 0 → M 229 39 = 0)
set_option maxHeartbeats 4000000 in
set_option maxRecDepth 100000 in
theorem ctX10_digits (Γ : Gam) (M : zM) (most : Int) (hmostl : 99999 ≤ most) (hmostu : most ≤ 99999)  : CtI Γ yX10_digits cX10_digits 4 (some .int) 2 45 [aR Γ 229, vI most] M (qctX10_digits M most) := by
  refine met_i (by decide) (Nat.le_of_ble_eq_true rfl) (fun x hx hr => ?_)
  show G Γ x 4 (QI Γ x (qctX10_digits M most)) M 0 [(0, aR Γ 229), (1, vI most)] []
  refine g_iv (fun hI0 => ?_)
  have hI_37 : (0 : Int) ≤ M 229 37 ∧ M 229 37 ≤ 400 := hI0 229 37
  have hI_38 : (0 : Int) ≤ M 229 38 ∧ M 229 38 ≤ 402 := hI0 229 38
  have hI_45 : (0 : Int) ≤ M 229 45 ∧ M 229 45 ≤ 402 := hI0 229 45
  have hI_42 : (0 : Int) ≤ M 229 42 ∧ M 229 42 ≤ 300 := hI0 229 42
  have hI_39 : (0 : Int) ≤ M 229 39 ∧ M 229 39 ≤ 100000 := hI0 229 39
  have hI_40 : (0 : Int) ≤ M 229 40 ∧ M 229 40 ≤ 5 := hI0 229 40
  have hI_41 : (0 : Int) ≤ M 229 41 ∧ M 229 41 ≤ 6 := hI0 229 41
  clear hI0
  refine g_aload_n (n := 1) hx 0 (dq tX10_digits 0 rfl) rfl rfl ?_
  refine g_callVi (n := 4) (As := []) (rest := []) hx (ctX10_isDigit Γ M ) mlX10_288 (obX10 (by decide)) (dq tX10_digits 1 rfl) rfl (Nat.le_of_ble_eq_true rfl) (Nat.le_of_ble_eq_true rfl) (Nat.le_of_ble_eq_true rfl) rfl (fun z_1 M_2 h_3 p_4 => ?_)
  obtain ⟨rfl, b_6⟩ := p_4
  refine g_if_ne (n := 7) (t := 18) hx (dq tX10_digits 2 rfl) (by decide) rfl h_3 (fun c_8 => ?_) (fun c_8 => ?_)
  · have b_6 := b_6.resolve_left c_8
    obtain ⟨-, h_7⟩ := b_6
    refine g_aload_n (n := 19) hx 0 (dq tX10_digits 10 rfl) rfl rfl ?_
    refine g_getI (n := 22) hx glX10_249 (sX10_38 (by decide)) (dq tX10_digits 11 rfl) rfl (fun h_9l h_9u => ?_)
    refine g_istore_n (n := 23) (lv' := [(2, vI (M 229 38)), (0, aR Γ 229), (1, vI most)]) hx (dq tX10_digits 12 rfl) (by decide) rfl rfl ?_
    refine g_iconst (n := 24) hx (dq tX10_digits 13 rfl) rfl ?_
    refine g_istore_n (n := 25) (lv' := [(3, vI 0), (2, vI (M 229 38)), (0, aR Γ 229), (1, vI most)]) hx (dq tX10_digits 14 rfl) (by decide) rfl rfl ?_
    have L_12 : ∀ (n_ : Nat) (i_10 : Int) (M_11 : zM), ((-2147483648) ≤ i_10) → (i_10 ≤ 2147483647) → (∀ u_ v_, (u_ ≠ 229 ∨ v_ ≠ 38) → M_11 u_ v_ = M u_ v_) → (M 229 38 ≤ M_11 229 38) → (M_11 229 38 = M 229 38 ∨ M_11 229 38 ≤ M 229 37) → ((402 - M_11 229 38).toNat = n_) → G Γ x 4 (QI Γ x (qctX10_digits M most)) M_11 25 [(3, vI i_10), (2, vI (M 229 38)), (0, aR Γ 229), (1, vI most)] [] := by
      intro n_
      induction n_ using Nat.strongRecOn with
      | _ n_ ih_13 =>
        intro i_10 M_11 h_18 h_19 f_14 h_16 h_17 hm_15
        refine g_aload_n (n := 26) hx 2 (dq tX10_digits 15 rfl) rfl rfl ?_
        have e_20 : M_11 229 37 = M 229 37 := (f_14 229 37 (by omega))
        have e_21 : M_11 229 39 = M 229 39 := (f_14 229 39 (by omega))
        refine g_callVi (n := 29) (As := []) (rest := []) hx (ctX10_isDigit Γ M_11 ) mlX10_288 (obX10 (by decide)) (dq tX10_digits 16 rfl) rfl (Nat.le_of_ble_eq_true rfl) (Nat.le_of_ble_eq_true rfl) (Nat.le_of_ble_eq_true rfl) rfl (fun z_22 M_23 h_24 p_25 => ?_)
        obtain ⟨rfl, b_27⟩ := p_25
        refine g_if_eq (n := 32) (t := 72) hx (dq tX10_digits 17 rfl) (by decide) rfl h_24 (fun c_29 => ?_) (fun c_29 => ?_)
        · clear b_27
          refine g_aload_n (n := 73) hx 2 (dq tX10_digits 42 rfl) rfl rfl ?_
          refine g_getI (n := 76) hx glX10_249 (sX10_38 (by decide)) (dq tX10_digits 43 rfl) rfl (fun h_30l h_30u => ?_)
          refine g_iload_n (n := 77) hx 1 (dq tX10_digits 44 rfl) rfl rfl ?_
          refine g_isub (n := 78) hx (dq tX10_digits 45 rfl) rfl ?_
          refine g_iconst (n := 79) hx (dq tX10_digits 46 rfl) rfl ?_
          refine g_icmp_gt (n := 82) (t := 87) hx (dq tX10_digits 47 rfl) (by decide) rfl ⟨by omega, by omega⟩ ⟨by decide, by decide⟩ (fun c_31 => ?_) (fun c_31 => ?_)
          · refine g_aload_n (n := 88) hx 2 (dq tX10_digits 51 rfl) rfl rfl ?_
            refine g_iconst (n := 89) hx (dq tX10_digits 52 rfl) rfl ?_
            refine g_iload_n (n := 90) hx 1 (dq tX10_digits 53 rfl) rfl rfl ?_
            refine g_callVv (n := 93) (As := [vI 1, vI (M 229 38)]) (rest := []) hx (ctX10_fails Γ M_11 1 (by decide) (by decide) (M 229 38) (by omega) (by omega)) mlX10_284 (obX10 (by decide)) (dq tX10_digits 54 rfl) rfl (Nat.le_of_ble_eq_true rfl) (Nat.le_of_ble_eq_true rfl) (Nat.le_of_ble_eq_true rfl) rfl (fun M_33 p_35 => ?_)
            obtain ⟨f_36, h_37⟩ := p_35
            refine g_iload_n (n := 94) hx 0 (dq tX10_digits 55 rfl) rfl rfl ?_
            have e_38 : M_33 229 37 = M_11 229 37 := (f_36 229 37 (by omega))
            have e_39 : M_33 229 38 = M_11 229 38 := (f_36 229 38 (by omega))
            exact g_iret hx hr (dq tX10_digits 56 rfl) ⟨by omega, by omega⟩ ⟨(fun u_ v_ huv_ => ((f_36 u_ v_ huv_.2).trans (f_14 u_ v_ huv_.1))), (by omega), (by omega), (by omega)⟩
          · refine g_iload_n (n := 83) hx 0 (dq tX10_digits 48 rfl) rfl rfl ?_
            refine g_iload_n (n := 84) hx 3 (dq tX10_digits 49 rfl) rfl rfl ?_
            refine g_icmp_le (n := 87) (t := 93) hx (dq tX10_digits 50 rfl) (by decide) rfl ⟨by omega, by omega⟩ (zrI hmostl hmostu (by decide) (by decide)) (fun c_40 => ?_) (fun c_40 => ?_)
            · refine g_iload_n (n := 94) hx 0 (dq tX10_digits 55 rfl) rfl rfl ?_
              exact g_iret hx hr (dq tX10_digits 56 rfl) ⟨by omega, by omega⟩ ⟨(fun u_ v_ huv_ => (f_14 u_ v_ huv_.1)), (by omega), (by omega), (by omega)⟩
            · refine g_aload_n (n := 88) hx 2 (dq tX10_digits 51 rfl) rfl rfl ?_
              refine g_iconst (n := 89) hx (dq tX10_digits 52 rfl) rfl ?_
              refine g_iload_n (n := 90) hx 1 (dq tX10_digits 53 rfl) rfl rfl ?_
              refine g_callVv (n := 93) (As := [vI 1, vI (M 229 38)]) (rest := []) hx (ctX10_fails Γ M_11 1 (by decide) (by decide) (M 229 38) (by omega) (by omega)) mlX10_284 (obX10 (by decide)) (dq tX10_digits 54 rfl) rfl (Nat.le_of_ble_eq_true rfl) (Nat.le_of_ble_eq_true rfl) (Nat.le_of_ble_eq_true rfl) rfl (fun M_42 p_44 => ?_)
              obtain ⟨f_45, h_46⟩ := p_44
              refine g_iload_n (n := 94) hx 0 (dq tX10_digits 55 rfl) rfl rfl ?_
              have e_47 : M_42 229 37 = M_11 229 37 := (f_45 229 37 (by omega))
              have e_48 : M_42 229 38 = M_11 229 38 := (f_45 229 38 (by omega))
              exact g_iret hx hr (dq tX10_digits 56 rfl) ⟨by omega, by omega⟩ ⟨(fun u_ v_ huv_ => ((f_45 u_ v_ huv_.2).trans (f_14 u_ v_ huv_.1))), (by omega), (by omega), (by omega)⟩
        · have b_27 := b_27.resolve_left c_29
          obtain ⟨-, h_28⟩ := b_27
          refine g_aload_n (n := 33) hx 2 (dq tX10_digits 18 rfl) rfl rfl ?_
          refine g_getI (n := 36) hx glX10_249 (sX10_38 (by decide)) (dq tX10_digits 19 rfl) rfl (fun h_49l h_49u => ?_)
          refine g_iload_n (n := 37) hx 1 (dq tX10_digits 20 rfl) rfl rfl ?_
          refine g_isub (n := 38) hx (dq tX10_digits 21 rfl) rfl ?_
          refine g_iconst (n := 39) hx (dq tX10_digits 22 rfl) rfl ?_
          refine g_icmp_ge (n := 42) (t := 57) hx (dq tX10_digits 23 rfl) (by decide) rfl ⟨by omega, by omega⟩ ⟨by decide, by decide⟩ (fun c_50 => ?_) (fun c_50 => ?_)
          · refine g_iload_n (n := 58) hx 0 (dq tX10_digits 33 rfl) rfl rfl ?_
            refine g_istore_n (n := 59) (lv' := [(3, vI i_10), (2, vI (M 229 38)), (0, aR Γ 229), (1, vI most)]) hx (dq tX10_digits 34 rfl) (by decide) rfl rfl ?_
            refine g_aload_n (n := 60) hx 2 (dq tX10_digits 35 rfl) rfl rfl ?_
            refine g_dup (n := 61) hx (dq tX10_digits 36 rfl) rfl rfl ?_
            refine g_getI (n := 64) hx glX10_249 (sX10_38 (by decide)) (dq tX10_digits 37 rfl) rfl (fun h_51l h_51u => ?_)
            refine g_iconst (n := 65) hx (dq tX10_digits 38 rfl) rfl ?_
            refine g_iadd (n := 66) hx (dq tX10_digits 39 rfl) rfl ?_
            refine g_putI (n := 69) hx plX10_249 (sX10_38 (by decide)) (dq tX10_digits 40 rfl) rfl (by omega) (by omega) (fun M_52 m_53e m_53 => ?_)
            refine g_goto (n := 25) hx (dq tX10_digits 41 rfl) (by decide) ?_
            have e_54 : M_52 229 37 = M_11 229 37 := (m_53 229 37 (by omega))
            have e_55 : M_52 229 39 = M_11 229 39 := (m_53 229 39 (by omega))
            exact ih_13 _ (by omega) i_10 M_52 (by omega) (by omega) (fun u_ v_ huv_ => ((m_53 u_ v_ huv_).trans (f_14 u_ v_ huv_))) (by first | assumption | omega) (by first | assumption | omega) rfl
          · refine g_bipush (n := 44) hx (dq tX10_digits 24 rfl) rfl (by decide) ?_
            refine g_iload_n (n := 45) hx 0 (dq tX10_digits 25 rfl) rfl rfl ?_
            refine g_imul (n := 46) hx (dq tX10_digits 26 rfl) rfl ?_
            refine g_aload_n (n := 47) hx 2 (dq tX10_digits 27 rfl) rfl rfl ?_
            refine g_callVi (n := 50) (As := []) (rest := [vI (10 * i_10)]) hx (ctX10_sign Γ M_11 ) mlX10_252 (obX10 (by decide)) (dq tX10_digits 28 rfl) rfl (Nat.le_of_ble_eq_true rfl) (Nat.le_of_ble_eq_true rfl) (Nat.le_of_ble_eq_true rfl) rfl (fun z_56 M_57 h_58 p_59 => ?_)
            obtain ⟨rfl, h_61, h_62, h_63⟩ := p_59
            refine g_iadd (n := 51) hx (dq tX10_digits 29 rfl) rfl ?_
            refine g_bipush (n := 53) hx (dq tX10_digits 30 rfl) rfl (by decide) ?_
            refine g_isub (n := 54) hx (dq tX10_digits 31 rfl) rfl ?_
            refine g_goto (n := 58) hx (dq tX10_digits 32 rfl) (by decide) ?_
            refine g_any (fun z_64 h_65 => ?_)
            refine g_istore_n (n := 59) (lv' := [(3, vI z_64), (2, vI (M 229 38)), (0, aR Γ 229), (1, vI most)]) hx (dq tX10_digits 34 rfl) (by decide) rfl rfl ?_
            refine g_aload_n (n := 60) hx 2 (dq tX10_digits 35 rfl) rfl rfl ?_
            refine g_dup (n := 61) hx (dq tX10_digits 36 rfl) rfl rfl ?_
            refine g_getI (n := 64) hx glX10_249 (sX10_38 (by decide)) (dq tX10_digits 37 rfl) rfl (fun h_66l h_66u => ?_)
            refine g_iconst (n := 65) hx (dq tX10_digits 38 rfl) rfl ?_
            refine g_iadd (n := 66) hx (dq tX10_digits 39 rfl) rfl ?_
            refine g_putI (n := 69) hx plX10_249 (sX10_38 (by decide)) (dq tX10_digits 40 rfl) rfl (by omega) (by omega) (fun M_67 m_68e m_68 => ?_)
            refine g_goto (n := 25) hx (dq tX10_digits 41 rfl) (by decide) ?_
            have e_69 : M_67 229 37 = M_11 229 37 := (m_68 229 37 (by omega))
            have e_70 : M_67 229 39 = M_11 229 39 := (m_68 229 39 (by omega))
            exact ih_13 _ (by omega) z_64 M_67 (by omega) (by omega) (fun u_ v_ huv_ => ((m_68 u_ v_ huv_).trans (f_14 u_ v_ huv_))) (by first | assumption | omega) (by first | assumption | omega) rfl
    exact L_12 _ 0 M (by omega) (by omega) (fun _ _ _ => rfl) (by first | assumption | omega) (by first | assumption | omega) rfl
  · clear b_6
    refine g_aload_n (n := 8) hx 0 (dq tX10_digits 3 rfl) rfl rfl ?_
    refine g_iconst (n := 9) hx (dq tX10_digits 4 rfl) rfl ?_
    refine g_aload_n (n := 10) hx 0 (dq tX10_digits 5 rfl) rfl rfl ?_
    refine g_getI (n := 13) hx glX10_249 (sX10_38 (by decide)) (dq tX10_digits 6 rfl) rfl (fun h_71l h_71u => ?_)
    refine g_callVv (n := 16) (As := [vI 0, vI (M 229 38)]) (rest := []) hx (ctX10_fails Γ M 0 (by decide) (by decide) (M 229 38) (by omega) (by omega)) mlX10_284 (obX10 (by decide)) (dq tX10_digits 7 rfl) rfl (Nat.le_of_ble_eq_true rfl) (Nat.le_of_ble_eq_true rfl) (Nat.le_of_ble_eq_true rfl) rfl (fun M_73 p_75 => ?_)
    obtain ⟨f_76, h_77⟩ := p_75
    refine g_iconst (n := 17) hx (dq tX10_digits 8 rfl) rfl ?_
    have e_78 : M_73 229 37 = M 229 37 := (f_76 229 37 (by omega))
    have e_79 : M_73 229 38 = M 229 38 := (f_76 229 38 (by omega))
    exact g_iret hx hr (dq tX10_digits 9 rfl) ⟨by decide, by decide⟩ ⟨(fun u_ v_ huv_ => (f_76 u_ v_ huv_.2)), (by omega), (by omega), (by omega)⟩

abbrev qctX10_value (M : zM) (ua : Int) (ud : Int) (un : Int) (us : Int) (M' : zM) : Prop := (∀ u_ v_, (u_ ≠ 229 ∨ v_ ≠ 38) ∧ (u_ ≠ 229 ∨ v_ ≠ 39) ∧ (u_ ≠ 229 ∨ v_ ≠ 42) ∧ (u_ ≠ 229 ∨ v_ ≠ 44) ∧ u_ ≠ 229 + 38 ∧ u_ ≠ 229 + 39 → M' u_ v_ = M u_ v_) ∧ (Rd M' ua (ud + 1) un us) ∧ (Kp M M') ∧ (M 229 38 ≤ M' 229 38) ∧ (M' 229 38 = M 229 38 ∨ M' 229 38 ≤ M 229 37)
set_option maxHeartbeats 4000000 in
set_option maxRecDepth 100000 in
theorem ctX10_value (Γ : Gam) (M : zM) (ua : Int) (ud : Int) (un : Int) (us : Int) (pre0 : 0 ≤ us) (pre1 : 0 ≤ ud) (ex0 : Rd M ua ud un us) : CtV Γ yX10_value cX10_value 3 none 5 109 [aR Γ 229] M (qctX10_value M ua ud un us) := by
  refine met_v (by decide) (Nat.le_of_ble_eq_true rfl) (fun x hx hr => ?_)
  show G Γ x 3 (QV Γ x (qctX10_value M ua ud un us)) M 0 [(0, aR Γ 229)] []
  refine g_iv (fun hI0 => ?_)
  have hI_37 : (0 : Int) ≤ M 229 37 ∧ M 229 37 ≤ 400 := hI0 229 37
  have hI_38 : (0 : Int) ≤ M 229 38 ∧ M 229 38 ≤ 402 := hI0 229 38
  have hI_45 : (0 : Int) ≤ M 229 45 ∧ M 229 45 ≤ 402 := hI0 229 45
  have hI_42 : (0 : Int) ≤ M 229 42 ∧ M 229 42 ≤ 300 := hI0 229 42
  have hI_39 : (0 : Int) ≤ M 229 39 ∧ M 229 39 ≤ 100000 := hI0 229 39
  have hI_40 : (0 : Int) ≤ M 229 40 ∧ M 229 40 ≤ 5 := hI0 229 40
  have hI_41 : (0 : Int) ≤ M 229 41 ∧ M 229 41 ≤ 6 := hI0 229 41
  clear hI0
  refine g_aload_n (n := 1) hx 0 (dq tX10_value 0 rfl) rfl rfl ?_
  refine g_callVv (n := 4) (As := []) (rest := []) hx (ctX10_blanks Γ M ) mlX10_268 (obX10 (by decide)) (dq tX10_value 1 rfl) rfl (Nat.le_of_ble_eq_true rfl) (Nat.le_of_ble_eq_true rfl) (Nat.le_of_ble_eq_true rfl) rfl (fun M_2 p_4 => ?_)
  obtain ⟨f_5, h_6, h_7⟩ := p_4
  have g_8 : Kp M M_2 := Kp.frame Kp.refl (fun c j hcj => f_5 c j (by omega))
  have g_9 : Rd M_2 ua ud un us := Rd.mv ex0 (fun c j hcj => f_5 c j (by omega)) (by have q39 := f_5 229 39 (by omega); omega)
  refine g_aload_n (n := 5) hx 0 (dq tX10_value 2 rfl) rfl rfl ?_
  refine g_getI (n := 8) hx glX10_249 (sX10_38 (by decide)) (dq tX10_value 3 rfl) rfl (fun h_10l h_10u => ?_)
  refine g_istore_n (n := 9) (lv' := [(1, vI (M_2 229 38)), (0, aR Γ 229)]) hx (dq tX10_value 4 rfl) (by decide) rfl rfl ?_
  refine g_aload_n (n := 10) hx 1 (dq tX10_value 5 rfl) rfl rfl ?_
  have e_11 : M_2 229 37 = M 229 37 := (f_5 229 37 (by omega))
  have e_12 : M_2 229 39 = M 229 39 := (f_5 229 39 (by omega))
  refine g_callVi (n := 13) (As := []) (rest := []) hx (ctX10_isDigit Γ M_2 ) mlX10_288 (obX10 (by decide)) (dq tX10_value 6 rfl) rfl (Nat.le_of_ble_eq_true rfl) (Nat.le_of_ble_eq_true rfl) (Nat.le_of_ble_eq_true rfl) rfl (fun z_13 M_14 h_15 p_16 => ?_)
  obtain ⟨rfl, b_18⟩ := p_16
  refine g_if_eq (n := 16) (t := 36) hx (dq tX10_value 7 rfl) (by decide) rfl h_15 (fun c_20 => ?_) (fun c_20 => ?_)
  · clear b_18
    refine g_iconst (n := 37) hx (dq tX10_value 20 rfl) rfl ?_
    refine g_istore_n (n := 38) (lv' := [(2, vI 0), (1, vI (M_2 229 38)), (0, aR Γ 229)]) hx (dq tX10_value 21 rfl) (by decide) rfl rfl ?_
    have L_22 : ∀ (n_ : Nat) (i_21 : Int), (0 ≤ i_21) → (i_21 ≤ 13) → ((13 - i_21).toNat = n_) → G Γ x 3 (QV Γ x (qctX10_value M ua ud un us)) M_2 38 [(2, vI i_21), (1, vI (M_2 229 38)), (0, aR Γ 229)] [] := by
      intro n_
      induction n_ using Nat.strongRecOn with
      | _ n_ ih_23 =>
        intro i_21 h_26 h_27 hm_25
        refine g_iload_n (n := 39) hx 0 (dq tX10_value 22 rfl) rfl rfl ?_
        refine g_aload_n (n := 40) hx 2 (dq tX10_value 23 rfl) rfl rfl ?_
        refine g_getI (n := 43) hx glX10_118 (sX10_46 (by decide)) (dq tX10_value 24 rfl) rfl (fun h_28l h_28u => ?_)
        refine g_icmp_ge (n := 46) (t := 63) hx (dq tX10_value 25 rfl) (by decide) rfl ⟨by omega, by omega⟩ (zrI h_28l h_28u (by decide) (by decide)) (fun c_29 => ?_) (fun c_29 => ?_)
        · refine g_iload_n (n := 64) hx 0 (dq tX10_value 33 rfl) rfl rfl ?_
          refine g_aload_n (n := 65) hx 2 (dq tX10_value 34 rfl) rfl rfl ?_
          refine g_getI (n := 68) hx glX10_118 (sX10_46 (by decide)) (dq tX10_value 35 rfl) rfl (fun h_30l h_30u => ?_)
          refine g_icmp_ne (n := 71) (t := 78) hx (dq tX10_value 36 rfl) (by decide) rfl ⟨by omega, by omega⟩ (zrI h_30l h_30u (by decide) (by decide)) (fun c_31 => ?_) (fun c_31 => ?_)
          · omega
          · refine g_aload_n (n := 72) hx 2 (dq tX10_value 37 rfl) rfl rfl ?_
            refine g_iconst (n := 73) hx (dq tX10_value 38 rfl) rfl ?_
            refine g_iload_n (n := 74) hx 1 (dq tX10_value 39 rfl) rfl rfl ?_
            refine g_callVv (n := 77) (As := [vI 0, vI (M_2 229 38)]) (rest := []) hx (ctX10_fails Γ M_2 0 (by decide) (by decide) (M_2 229 38) (by omega) (by omega)) mlX10_284 (obX10 (by decide)) (dq tX10_value 40 rfl) rfl (Nat.le_of_ble_eq_true rfl) (Nat.le_of_ble_eq_true rfl) (Nat.le_of_ble_eq_true rfl) rfl (fun M_33 p_35 => ?_)
            obtain ⟨f_36, h_37⟩ := p_35
            have g_38 : Kp M M_33 := Kp.frame g_8 (fun c j hcj => f_36 c j (by omega))
            have e_40 : M_33 229 37 = M_2 229 37 := (f_36 229 37 (by omega))
            have e_41 : M_33 229 38 = M_2 229 38 := (f_36 229 38 (by omega))
            exact g_vret hx hr (dq tX10_value 41 rfl) ⟨(fun u_ v_ huv_ => ((f_36 u_ v_ huv_.2.1).trans (f_5 u_ v_ huv_.1))), (Rd.vac (by omega)), g_38, (by omega), (by omega)⟩
        · refine g_aload_n (n := 47) hx 2 (dq tX10_value 26 rfl) rfl rfl ?_
          refine g_iload_n (n := 48) hx 0 (dq tX10_value 27 rfl) rfl rfl ?_
          refine g_callSs (n := 51) (As := [vI i_21]) (rest := [aR Γ 229]) hx (ctX10_wordOf Γ M_2 i_21 (by omega) (by omega)) mlX10_302 (dq tX10_value 28 rfl) rfl (Nat.le_of_ble_eq_true rfl) (Nat.le_of_ble_eq_true rfl) (Nat.le_of_ble_eq_true rfl) rfl (fun z_42 M_43 p_45 => ?_)
          obtain ⟨rfl, h_47, h_48⟩ := p_45
          obtain ⟨qz_42, hz_42⟩ := sN_some z_42 (by omega)
          have hz_42n := sNle z_42 _ hz_42
          have hz_42l := sln_eq hz_42
          have h_49 := wlF_pos (k := i_21) (by omega) (by omega)
          refine g_callVi (n := 54) (As := [sR Γ z_42]) (rest := []) hx (ctX10_stood Γ M_2 z_42 _ hz_42 hz_42n (by omega)) mlX10_271 (obX10 (by decide)) (dq tX10_value 29 rfl) rfl (Nat.le_of_ble_eq_true rfl) (Nat.le_of_ble_eq_true rfl) (Nat.le_of_ble_eq_true rfl) rfl (fun z_50 M_51 h_52 p_53 => ?_)
          obtain ⟨rfl, b_55⟩ := p_53
          refine g_if_ne (n := 57) (t := 63) hx (dq tX10_value 30 rfl) (by decide) rfl h_52 (fun c_57 => ?_) (fun c_57 => ?_)
          · have b_55 := b_55.resolve_left c_57
            obtain ⟨-, h_56⟩ := b_55
            refine g_iload_n (n := 64) hx 0 (dq tX10_value 33 rfl) rfl rfl ?_
            refine g_aload_n (n := 65) hx 2 (dq tX10_value 34 rfl) rfl rfl ?_
            refine g_getI (n := 68) hx glX10_118 (sX10_46 (by decide)) (dq tX10_value 35 rfl) rfl (fun h_58l h_58u => ?_)
            refine g_icmp_ne (n := 71) (t := 78) hx (dq tX10_value 36 rfl) (by decide) rfl ⟨by omega, by omega⟩ (zrI h_58l h_58u (by decide) (by decide)) (fun c_59 => ?_) (fun c_59 => ?_)
            · refine g_aload_n (n := 79) hx 2 (dq tX10_value 42 rfl) rfl rfl ?_
              refine g_iload_n (n := 80) hx 1 (dq tX10_value 43 rfl) rfl rfl ?_
              refine g_callVv (n := 83) (As := [vI (M_2 229 38)]) (rest := []) hx (ctX10_isCounted Γ M_2 (M_2 229 38) (by omega) (by omega) ua ud un us g_9) mlX10_296 (obX10 (by decide)) (dq tX10_value 44 rfl) rfl (Nat.le_of_ble_eq_true rfl) (Nat.le_of_ble_eq_true rfl) (Nat.le_of_ble_eq_true rfl) rfl (fun M_61 p_63 => ?_)
              obtain ⟨f_64, h_65, h_66⟩ := p_63
              have g_67 : Kp M M_61 := Kp.frame g_8 (fun c j hcj => f_64 c j (by omega))
              have g_68 : Rd M_61 ua ud un (us + 6) := Rd.to h_65 (by omega) (by omega) (by omega)
              refine g_aload_n (n := 84) hx 2 (dq tX10_value 45 rfl) rfl rfl ?_
              refine g_dup (n := 85) hx (dq tX10_value 46 rfl) rfl rfl ?_
              refine g_getI (n := 88) hx glX10_249 (sX10_38 (by decide)) (dq tX10_value 47 rfl) rfl (fun h_69l h_69u => ?_)
              have e_70 : M_61 229 38 = M_2 229 38 := (f_64 229 38 (by omega))
              refine g_iload_n (n := 89) hx 0 (dq tX10_value 48 rfl) rfl rfl ?_
              have e_71 : M_61 229 37 = M_2 229 37 := (f_64 229 37 (by omega))
              refine g_callSs (n := 92) (As := [vI i_21]) (rest := [vI (M_61 229 38), aR Γ 229]) hx (ctX10_wordOf Γ M_61 i_21 (by omega) (by omega)) mlX10_302 (dq tX10_value 49 rfl) rfl (Nat.le_of_ble_eq_true rfl) (Nat.le_of_ble_eq_true rfl) (Nat.le_of_ble_eq_true rfl) rfl (fun z_72 M_73 p_75 => ?_)
              obtain ⟨rfl, h_77, h_78⟩ := p_75
              obtain ⟨qz_72, hz_72⟩ := sN_some z_72 (by omega)
              have hz_72n := sNle z_72 _ hz_72
              have hz_72l := sln_eq hz_72
              have h_79 := wlF_pos (k := i_21) (by omega) (by omega)
              refine g_callSt (n := 95) (As := []) (rest := [vI (M_61 229 38), aR Γ 229]) hx (ctJ0_length_8abf5 Γ M_61 z_72 _ hz_72) mlX10_260 rfl hz_72 (dq tX10_value 50 rfl) rfl (Nat.le_of_ble_eq_true rfl) (Nat.le_of_ble_eq_true rfl) (Nat.le_of_ble_eq_true rfl) rfl (fun z_80 M_81 h_82 p_83 => ?_)
              obtain ⟨rfl, h_84⟩ := p_83
              refine g_iadd (n := 96) hx (dq tX10_value 51 rfl) rfl ?_
              refine g_putI (n := 99) hx plX10_249 (sX10_38 (by decide)) (dq tX10_value 52 rfl) rfl (by omega) (by omega) (fun M_85 m_86e m_86 => ?_)
              have g_87 : Kp M M_85 := Kp.frame g_67 (fun c j hcj => m_86 c j (by omega))
              have g_88 : Rd M_85 ua ud un (us + 6) := Rd.mv g_68 (fun c j hcj => m_86 c j (by omega)) (by have q39 := m_86 229 39 (by omega); omega)
              refine g_aload_n (n := 100) hx 2 (dq tX10_value 53 rfl) rfl rfl ?_
              refine g_iconst (n := 101) hx (dq tX10_value 54 rfl) rfl ?_
              refine g_iload_n (n := 102) hx 0 (dq tX10_value 55 rfl) rfl rfl ?_
              have e_89 : M_85 229 37 = M_61 229 37 := (m_86 229 37 (by omega))
              have e_90 : M_85 229 39 = M_61 229 39 := (m_86 229 39 (by omega))
              refine g_callVv (n := 105) (As := [vI 1, vI i_21]) (rest := []) hx (ctX10_entry0 Γ M_85 1 (by decide) (by decide) i_21 (by omega) (by omega) ua ud un (us + 6) (by omega) (by omega) g_88) mlX10_299 (obX10 (by decide)) (dq tX10_value 56 rfl) rfl (Nat.le_of_ble_eq_true rfl) (Nat.le_of_ble_eq_true rfl) (Nat.le_of_ble_eq_true rfl) rfl (fun M_92 p_94 => ?_)
              obtain ⟨f_95, h_96, h_97⟩ := p_94
              have g_98 := Kp.trans g_87 h_97
              have g_99 : Rd M_92 ua (ud + 1) un us := Rd.to h_96 (by omega) (by omega) (by omega)
              have e_100 : M_92 229 37 = M_85 229 37 := (f_95 229 37 (by omega))
              have e_101 : M_92 229 38 = M_85 229 38 := (f_95 229 38 (by omega))
              have e_102 : M_92 229 39 = M_85 229 39 := (f_95 229 39 (by omega))
              exact g_vret hx hr (dq tX10_value 57 rfl) ⟨(fun u_ v_ huv_ => ((((f_95 u_ v_ ⟨huv_.2.2.2.2.1, huv_.2.2.2.2.2, huv_.2.2.1⟩).trans (m_86 u_ v_ huv_.1)).trans (f_64 u_ v_ ⟨huv_.2.1, huv_.2.2.2.1⟩)).trans (f_5 u_ v_ huv_.1))), (Rd.to g_99 (by omega) (by omega) (by omega)), g_98, (by omega), (by omega)⟩
            · omega
          · clear b_55
            refine g_iinc (n := 60) (lv' := [(2, vI (i_21 + 1)), (1, vI (M_2 229 38)), (0, aR Γ 229)]) hx 0 (dq tX10_value 31 rfl) rfl (by decide) rfl rfl ?_
            refine g_goto (n := 38) hx (dq tX10_value 32 rfl) (by decide) ?_
            exact ih_23 _ (by omega) (i_21 + 1) (by omega) (by omega) rfl
    exact L_22 _ 0 (by omega) (by omega) rfl
  · have b_18 := b_18.resolve_left c_20
    obtain ⟨-, h_19⟩ := b_18
    refine g_aload_n (n := 17) hx 1 (dq tX10_value 8 rfl) rfl rfl ?_
    refine g_ldcw (n := 20) (z := 99999) hx wd_1440 (by decide) (dq tX10_value 9 rfl) rfl ?_
    refine g_callVi (n := 23) (As := [vI 99999]) (rest := []) hx (ctX10_digits Γ M_2 99999 (by decide) (by decide)) mlX10_293 (obX10 (by decide)) (dq tX10_value 10 rfl) rfl (Nat.le_of_ble_eq_true rfl) (Nat.le_of_ble_eq_true rfl) (Nat.le_of_ble_eq_true rfl) rfl (fun z_103 M_104 h_105 p_106 => ?_)
    obtain ⟨f_107, h_108, h_109, h_110⟩ := p_106
    have g_111 : Kp M M_104 := Kp.frame g_8 (fun c j hcj => f_107 c j (by omega))
    have g_112 : Rd M_104 ua ud un us := Rd.mv g_9 (fun c j hcj => f_107 c j (by omega)) (by omega)
    refine g_istore_n (n := 24) (lv' := [(2, vI z_103), (1, vI (M_2 229 38)), (0, aR Γ 229)]) hx (dq tX10_value 11 rfl) (by decide) rfl rfl ?_
    refine g_aload_n (n := 25) hx 2 (dq tX10_value 12 rfl) rfl rfl ?_
    refine g_iload_n (n := 26) hx 1 (dq tX10_value 13 rfl) rfl rfl ?_
    have e_113 : M_104 229 37 = M_2 229 37 := (f_107 229 37 (by omega))
    refine g_callVv (n := 29) (As := [vI (M_2 229 38)]) (rest := []) hx (ctX10_isCounted Γ M_104 (M_2 229 38) (by omega) (by omega) ua ud un us g_112) mlX10_296 (obX10 (by decide)) (dq tX10_value 14 rfl) rfl (Nat.le_of_ble_eq_true rfl) (Nat.le_of_ble_eq_true rfl) (Nat.le_of_ble_eq_true rfl) rfl (fun M_115 p_117 => ?_)
    obtain ⟨f_118, h_119, h_120⟩ := p_117
    have g_121 : Kp M M_115 := Kp.frame g_111 (fun c j hcj => f_118 c j (by omega))
    have g_122 : Rd M_115 ua ud un (us + 6) := Rd.to h_119 (by omega) (by omega) (by omega)
    refine g_aload_n (n := 30) hx 2 (dq tX10_value 15 rfl) rfl rfl ?_
    refine g_iconst (n := 31) hx (dq tX10_value 16 rfl) rfl ?_
    refine g_iload_n (n := 32) hx 0 (dq tX10_value 17 rfl) rfl rfl ?_
    have e_123 : M_115 229 37 = M_104 229 37 := (f_118 229 37 (by omega))
    have e_124 : M_115 229 38 = M_104 229 38 := (f_118 229 38 (by omega))
    refine g_callVv (n := 35) (As := [vI 0, vI z_103]) (rest := []) hx (ctX10_entry0 Γ M_115 0 (by decide) (by decide) z_103 (by omega) (by omega) ua ud un (us + 6) (by omega) (by omega) g_122) mlX10_299 (obX10 (by decide)) (dq tX10_value 18 rfl) rfl (Nat.le_of_ble_eq_true rfl) (Nat.le_of_ble_eq_true rfl) (Nat.le_of_ble_eq_true rfl) rfl (fun M_126 p_128 => ?_)
    obtain ⟨f_129, h_130, h_131⟩ := p_128
    have g_132 := Kp.trans g_121 h_131
    have g_133 : Rd M_126 ua (ud + 1) un us := Rd.to h_130 (by omega) (by omega) (by omega)
    have e_134 : M_126 229 37 = M_115 229 37 := (f_129 229 37 (by omega))
    have e_135 : M_126 229 38 = M_115 229 38 := (f_129 229 38 (by omega))
    have e_136 : M_126 229 39 = M_115 229 39 := (f_129 229 39 (by omega))
    exact g_vret hx hr (dq tX10_value 19 rfl) ⟨(fun u_ v_ huv_ => ((((f_129 u_ v_ ⟨huv_.2.2.2.2.1, huv_.2.2.2.2.2, huv_.2.2.1⟩).trans (f_118 u_ v_ ⟨huv_.2.1, huv_.2.2.2.1⟩)).trans (f_107 u_ v_ ⟨huv_.1, huv_.2.1⟩)).trans (f_5 u_ v_ huv_.1))), (Rd.to g_133 (by omega) (by omega) (by omega)), g_132, (by omega), (by omega)⟩

abbrev qctX10_term (M : zM) (ua : Int) (ud : Int) (un : Int) (us : Int) (M' : zM) : Prop := (∀ u_ v_, (u_ ≠ 229 ∨ v_ ≠ 38) ∧ (u_ ≠ 229 ∨ v_ ≠ 39) ∧ (u_ ≠ 229 ∨ v_ ≠ 42) ∧ (u_ ≠ 229 ∨ v_ ≠ 44) ∧ u_ ≠ 229 + 38 ∧ u_ ≠ 229 + 39 → M' u_ v_ = M u_ v_) ∧ (Rd M' ua (ud + 1) un us) ∧ (Kp M M') ∧ (M 229 38 ≤ M' 229 38) ∧ (M' 229 38 = M 229 38 ∨ M' 229 38 ≤ M 229 37)
set_option maxHeartbeats 4000000 in
set_option maxRecDepth 100000 in
theorem ctX10_term (Γ : Gam) (M : zM) (ua : Int) (ud : Int) (un : Int) (us : Int) (pre0 : 0 ≤ us) (pre1 : 0 ≤ ud) (ex0 : Rd M ua ud un us) : CtV Γ yX10_term cX10_term 2 none 6 131 [aR Γ 229] M (qctX10_term M ua ud un us) := by
  refine met_v (by decide) (Nat.le_of_ble_eq_true rfl) (fun x hx hr => ?_)
  show G Γ x 2 (QV Γ x (qctX10_term M ua ud un us)) M 0 [(0, aR Γ 229)] []
  refine g_iv (fun hI0 => ?_)
  have hI_37 : (0 : Int) ≤ M 229 37 ∧ M 229 37 ≤ 400 := hI0 229 37
  have hI_38 : (0 : Int) ≤ M 229 38 ∧ M 229 38 ≤ 402 := hI0 229 38
  have hI_45 : (0 : Int) ≤ M 229 45 ∧ M 229 45 ≤ 402 := hI0 229 45
  have hI_42 : (0 : Int) ≤ M 229 42 ∧ M 229 42 ≤ 300 := hI0 229 42
  have hI_39 : (0 : Int) ≤ M 229 39 ∧ M 229 39 ≤ 100000 := hI0 229 39
  have hI_40 : (0 : Int) ≤ M 229 40 ∧ M 229 40 ≤ 5 := hI0 229 40
  have hI_41 : (0 : Int) ≤ M 229 41 ∧ M 229 41 ≤ 6 := hI0 229 41
  clear hI0
  refine g_aload_n (n := 1) hx 0 (dq tX10_term 0 rfl) rfl rfl ?_
  refine g_callVv (n := 4) (As := []) (rest := []) hx (ctX10_value Γ M ua ud un us (by omega) (by omega) ex0) mlX10_306 (obX10 (by decide)) (dq tX10_term 1 rfl) rfl (Nat.le_of_ble_eq_true rfl) (Nat.le_of_ble_eq_true rfl) (Nat.le_of_ble_eq_true rfl) rfl (fun M_2 p_4 => ?_)
  obtain ⟨f_5, h_6, h_7, h_8, h_9⟩ := p_4
  have g_10 := Kp.trans Kp.refl h_7
  have g_11 : Rd M_2 ua (ud + 1) un us := Rd.to h_6 (by omega) (by omega) (by omega)
  refine g_aload_n (n := 5) hx 0 (dq tX10_term 2 rfl) rfl rfl ?_
  have e_12 : M_2 229 37 = M 229 37 := (f_5 229 37 (by omega))
  refine g_callVv (n := 8) (As := []) (rest := []) hx (ctX10_blanks Γ M_2 ) mlX10_268 (obX10 (by decide)) (dq tX10_term 3 rfl) rfl (Nat.le_of_ble_eq_true rfl) (Nat.le_of_ble_eq_true rfl) (Nat.le_of_ble_eq_true rfl) rfl (fun M_14 p_16 => ?_)
  obtain ⟨f_17, h_18, h_19⟩ := p_16
  have g_20 : Kp M M_14 := Kp.frame g_10 (fun c j hcj => f_17 c j (by omega))
  have g_21 : Rd M_14 ua (ud + 1) un us := Rd.mv g_11 (fun c j hcj => f_17 c j (by omega)) (by have q39 := f_17 229 39 (by omega); omega)
  have L_23 : ∀ (n_ : Nat) (M_22 : zM), (∀ u_ v_, (u_ ≠ 229 ∨ v_ ≠ 38) ∧ u_ ≠ 229 + 38 ∧ u_ ≠ 229 + 39 ∧ (u_ ≠ 229 ∨ v_ ≠ 42) ∧ (u_ ≠ 229 ∨ v_ ≠ 39) ∧ (u_ ≠ 229 ∨ v_ ≠ 44) → M_22 u_ v_ = M_14 u_ v_) → (Kp M M_22) → (Rd M_22 ua (ud + 1) un us) → (M 229 38 ≤ M_22 229 38) → (M_22 229 38 = M 229 38 ∨ M_22 229 38 ≤ M 229 37) → ((402 - M_22 229 38).toNat = n_) → G Γ x 2 (QV Γ x (qctX10_term M ua ud un us)) M_22 8 [(0, aR Γ 229)] [] := by
    intro n_
    induction n_ using Nat.strongRecOn with
    | _ n_ ih_24 =>
      intro M_22 f_25 g_26 g_27 h_29 h_30 hm_28
      refine g_aload_n (n := 9) hx 0 (dq tX10_term 4 rfl) rfl rfl ?_
      refine g_getI (n := 12) hx glX10_246 (sX10_39 (by decide)) (dq tX10_term 5 rfl) rfl (fun h_31l h_31u => ?_)
      refine g_if_ne (n := 15) (t := 100) hx (dq tX10_term 6 rfl) (by decide) rfl (zrI h_31l h_31u (by decide) (by decide)) (fun c_32 => ?_) (fun c_32 => ?_)
      · have e_33 : M_22 229 37 = M_2 229 37 := ((f_25 229 37 (by omega))).trans (f_17 229 37 (by omega))
        exact g_vret hx hr (dq tX10_term 48 rfl) ⟨(fun u_ v_ huv_ => (((f_25 u_ v_ ⟨huv_.1, huv_.2.2.2.2.1, huv_.2.2.2.2.2, huv_.2.2.1, huv_.2.1, huv_.2.2.2.1⟩).trans (f_17 u_ v_ huv_.1)).trans (f_5 u_ v_ ⟨huv_.1, huv_.2.1, huv_.2.2.1, huv_.2.2.2.1, huv_.2.2.2.2.1, huv_.2.2.2.2.2⟩))), (Rd.to g_27 (by omega) (by omega) (by omega)), g_26, (by omega), (by omega)⟩
      · refine g_aload_n (n := 16) hx 0 (dq tX10_term 7 rfl) rfl rfl ?_
        have e_34 : M_22 229 37 = M_2 229 37 := ((f_25 229 37 (by omega))).trans (f_17 229 37 (by omega))
        refine g_callVi (n := 19) (As := []) (rest := []) hx (ctX10_sign Γ M_22 ) mlX10_252 (obX10 (by decide)) (dq tX10_term 8 rfl) rfl (Nat.le_of_ble_eq_true rfl) (Nat.le_of_ble_eq_true rfl) (Nat.le_of_ble_eq_true rfl) rfl (fun z_35 M_36 h_37 p_38 => ?_)
        obtain ⟨rfl, h_40, h_41, h_42⟩ := p_38
        refine g_bipush (n := 21) hx (dq tX10_term 9 rfl) rfl (by decide) ?_
        refine g_icmp_eq (n := 24) (t := 42) hx (dq tX10_term 10 rfl) (by decide) rfl h_37 ⟨by decide, by decide⟩ (fun c_43 => ?_) (fun c_43 => ?_)
        · refine g_aload_n (n := 43) hx 0 (dq tX10_term 19 rfl) rfl rfl ?_
          refine g_callVi (n := 46) (As := []) (rest := []) hx (ctX10_sign Γ M_22 ) mlX10_252 (obX10 (by decide)) (dq tX10_term 20 rfl) rfl (Nat.le_of_ble_eq_true rfl) (Nat.le_of_ble_eq_true rfl) (Nat.le_of_ble_eq_true rfl) rfl (fun z_44 M_45 h_46 p_47 => ?_)
          obtain ⟨rfl, h_49, h_50, h_51⟩ := p_47
          refine g_bipush (n := 48) hx (dq tX10_term 21 rfl) rfl (by decide) ?_
          refine g_icmp_ne (n := 51) (t := 56) hx (dq tX10_term 22 rfl) (by decide) rfl h_46 ⟨by decide, by decide⟩ (fun c_52 => ?_) (fun c_52 => ?_)
          · refine g_aload_n (n := 57) hx 0 (dq tX10_term 25 rfl) rfl rfl ?_
            refine g_callVi (n := 60) (As := []) (rest := []) hx (ctX10_sign Γ M_22 ) mlX10_252 (obX10 (by decide)) (dq tX10_term 26 rfl) rfl (Nat.le_of_ble_eq_true rfl) (Nat.le_of_ble_eq_true rfl) (Nat.le_of_ble_eq_true rfl) rfl (fun z_53 M_54 h_55 p_56 => ?_)
            obtain ⟨rfl, h_58, h_59, h_60⟩ := p_56
            refine g_bipush (n := 62) hx (dq tX10_term 27 rfl) rfl (by decide) ?_
            refine g_icmp_ne (n := 65) (t := 70) hx (dq tX10_term 28 rfl) (by decide) rfl h_55 ⟨by decide, by decide⟩ (fun c_61 => ?_) (fun c_61 => ?_)
            · refine g_bipush (n := 72) hx (dq tX10_term 31 rfl) rfl (by decide) ?_
              refine g_istore_n (n := 73) (lv' := [(1, vI 15), (0, aR Γ 229)]) hx (dq tX10_term 32 rfl) (by decide) rfl rfl ?_
              refine g_aload_n (n := 74) hx 1 (dq tX10_term 33 rfl) rfl rfl ?_
              refine g_dup (n := 75) hx (dq tX10_term 34 rfl) rfl rfl ?_
              refine g_getI (n := 78) hx glX10_249 (sX10_38 (by decide)) (dq tX10_term 35 rfl) rfl (fun h_62l h_62u => ?_)
              refine g_iconst (n := 79) hx (dq tX10_term 36 rfl) rfl ?_
              refine g_iadd (n := 80) hx (dq tX10_term 37 rfl) rfl ?_
              refine g_putI (n := 83) hx plX10_249 (sX10_38 (by decide)) (dq tX10_term 38 rfl) rfl (by omega) (by omega) (fun M_63 m_64e m_64 => ?_)
              have g_65 : Kp M M_63 := Kp.frame g_26 (fun c j hcj => m_64 c j (by omega))
              have g_66 : Rd M_63 ua (ud + 1) un us := Rd.mv g_27 (fun c j hcj => m_64 c j (by omega)) (by have q39 := m_64 229 39 (by omega); omega)
              refine g_aload_n (n := 84) hx 1 (dq tX10_term 39 rfl) rfl rfl ?_
              have e_67 : M_63 229 37 = M_22 229 37 := (m_64 229 37 (by omega))
              have e_68 : M_63 229 39 = M_22 229 39 := (m_64 229 39 (by omega))
              refine g_callVv (n := 87) (As := []) (rest := []) hx (ctX10_value Γ M_63 ua (ud + 1) un us (by omega) (by omega) g_66) mlX10_306 (obX10 (by decide)) (dq tX10_term 40 rfl) rfl (Nat.le_of_ble_eq_true rfl) (Nat.le_of_ble_eq_true rfl) (Nat.le_of_ble_eq_true rfl) rfl (fun M_70 p_72 => ?_)
              obtain ⟨f_73, h_74, h_75, h_76, h_77⟩ := p_72
              have g_78 := Kp.trans g_65 h_75
              have g_79 : Rd M_70 ua (ud + 2) un us := Rd.to h_74 (by omega) (by omega) (by omega)
              refine g_aload_n (n := 88) hx 1 (dq tX10_term 41 rfl) rfl rfl ?_
              refine g_iload_n (n := 89) hx 0 (dq tX10_term 42 rfl) rfl rfl ?_
              refine g_iconst (n := 90) hx (dq tX10_term 43 rfl) rfl ?_
              have e_80 : M_70 229 37 = M_63 229 37 := (f_73 229 37 (by omega))
              refine g_callVv (n := 93) (As := [vI 15, vI 0]) (rest := []) hx (ctX10_entry2 Γ M_70 15 (by decide) (by decide) 0 (by decide) (by decide) ua (ud + 2) un us (by omega) (by omega) (by omega) g_79) mlX10_299 (obX10 (by decide)) (dq tX10_term 44 rfl) rfl (Nat.le_of_ble_eq_true rfl) (Nat.le_of_ble_eq_true rfl) (Nat.le_of_ble_eq_true rfl) rfl (fun M_82 p_84 => ?_)
              obtain ⟨f_85, h_86, h_87⟩ := p_84
              have g_88 := Kp.trans g_78 h_87
              have g_89 : Rd M_82 ua (ud + 1) un us := Rd.to h_86 (by omega) (by omega) (by omega)
              refine g_aload_n (n := 94) hx 1 (dq tX10_term 45 rfl) rfl rfl ?_
              have e_90 : M_82 229 37 = M_70 229 37 := (f_85 229 37 (by omega))
              have e_91 : M_82 229 38 = M_70 229 38 := (f_85 229 38 (by omega))
              have e_92 : M_82 229 39 = M_70 229 39 := (f_85 229 39 (by omega))
              refine g_callVv (n := 97) (As := []) (rest := []) hx (ctX10_blanks Γ M_82 ) mlX10_268 (obX10 (by decide)) (dq tX10_term 46 rfl) rfl (Nat.le_of_ble_eq_true rfl) (Nat.le_of_ble_eq_true rfl) (Nat.le_of_ble_eq_true rfl) rfl (fun M_94 p_96 => ?_)
              obtain ⟨f_97, h_98, h_99⟩ := p_96
              have g_100 : Kp M M_94 := Kp.frame g_88 (fun c j hcj => f_97 c j (by omega))
              have g_101 : Rd M_94 ua (ud + 1) un us := Rd.mv g_89 (fun c j hcj => f_97 c j (by omega)) (by have q39 := f_97 229 39 (by omega); omega)
              refine g_goto (n := 8) hx (dq tX10_term 47 rfl) (by decide) ?_
              have e_102 : M_94 229 37 = M_82 229 37 := (f_97 229 37 (by omega))
              have e_103 : M_94 229 39 = M_82 229 39 := (f_97 229 39 (by omega))
              refine g_lv [1] rfl ?_
              exact ih_24 _ (by omega) M_94 (fun u_ v_ huv_ => (((((f_97 u_ v_ huv_.1).trans (f_85 u_ v_ ⟨huv_.2.1, huv_.2.2.1, huv_.2.2.2.1⟩)).trans (f_73 u_ v_ ⟨huv_.1, huv_.2.2.2.2.1, huv_.2.2.2.1, huv_.2.2.2.2.2, huv_.2.1, huv_.2.2.1⟩)).trans (m_64 u_ v_ huv_.1)).trans (f_25 u_ v_ ⟨huv_.1, huv_.2.1, huv_.2.2.1, huv_.2.2.2.1, huv_.2.2.2.2.1, huv_.2.2.2.2.2⟩))) g_100 g_101 (by first | assumption | omega) (by first | assumption | omega) rfl
            · refine g_bipush (n := 67) hx (dq tX10_term 29 rfl) rfl (by decide) ?_
              refine g_goto (n := 72) hx (dq tX10_term 30 rfl) (by decide) ?_
              refine g_istore_n (n := 73) (lv' := [(1, vI 14), (0, aR Γ 229)]) hx (dq tX10_term 32 rfl) (by decide) rfl rfl ?_
              refine g_aload_n (n := 74) hx 1 (dq tX10_term 33 rfl) rfl rfl ?_
              refine g_dup (n := 75) hx (dq tX10_term 34 rfl) rfl rfl ?_
              refine g_getI (n := 78) hx glX10_249 (sX10_38 (by decide)) (dq tX10_term 35 rfl) rfl (fun h_104l h_104u => ?_)
              refine g_iconst (n := 79) hx (dq tX10_term 36 rfl) rfl ?_
              refine g_iadd (n := 80) hx (dq tX10_term 37 rfl) rfl ?_
              refine g_putI (n := 83) hx plX10_249 (sX10_38 (by decide)) (dq tX10_term 38 rfl) rfl (by omega) (by omega) (fun M_105 m_106e m_106 => ?_)
              have g_107 : Kp M M_105 := Kp.frame g_26 (fun c j hcj => m_106 c j (by omega))
              have g_108 : Rd M_105 ua (ud + 1) un us := Rd.mv g_27 (fun c j hcj => m_106 c j (by omega)) (by have q39 := m_106 229 39 (by omega); omega)
              refine g_aload_n (n := 84) hx 1 (dq tX10_term 39 rfl) rfl rfl ?_
              have e_109 : M_105 229 37 = M_22 229 37 := (m_106 229 37 (by omega))
              have e_110 : M_105 229 39 = M_22 229 39 := (m_106 229 39 (by omega))
              refine g_callVv (n := 87) (As := []) (rest := []) hx (ctX10_value Γ M_105 ua (ud + 1) un us (by omega) (by omega) g_108) mlX10_306 (obX10 (by decide)) (dq tX10_term 40 rfl) rfl (Nat.le_of_ble_eq_true rfl) (Nat.le_of_ble_eq_true rfl) (Nat.le_of_ble_eq_true rfl) rfl (fun M_112 p_114 => ?_)
              obtain ⟨f_115, h_116, h_117, h_118, h_119⟩ := p_114
              have g_120 := Kp.trans g_107 h_117
              have g_121 : Rd M_112 ua (ud + 2) un us := Rd.to h_116 (by omega) (by omega) (by omega)
              refine g_aload_n (n := 88) hx 1 (dq tX10_term 41 rfl) rfl rfl ?_
              refine g_iload_n (n := 89) hx 0 (dq tX10_term 42 rfl) rfl rfl ?_
              refine g_iconst (n := 90) hx (dq tX10_term 43 rfl) rfl ?_
              have e_122 : M_112 229 37 = M_105 229 37 := (f_115 229 37 (by omega))
              refine g_callVv (n := 93) (As := [vI 14, vI 0]) (rest := []) hx (ctX10_entry2 Γ M_112 14 (by decide) (by decide) 0 (by decide) (by decide) ua (ud + 2) un us (by omega) (by omega) (by omega) g_121) mlX10_299 (obX10 (by decide)) (dq tX10_term 44 rfl) rfl (Nat.le_of_ble_eq_true rfl) (Nat.le_of_ble_eq_true rfl) (Nat.le_of_ble_eq_true rfl) rfl (fun M_124 p_126 => ?_)
              obtain ⟨f_127, h_128, h_129⟩ := p_126
              have g_130 := Kp.trans g_120 h_129
              have g_131 : Rd M_124 ua (ud + 1) un us := Rd.to h_128 (by omega) (by omega) (by omega)
              refine g_aload_n (n := 94) hx 1 (dq tX10_term 45 rfl) rfl rfl ?_
              have e_132 : M_124 229 37 = M_112 229 37 := (f_127 229 37 (by omega))
              have e_133 : M_124 229 38 = M_112 229 38 := (f_127 229 38 (by omega))
              have e_134 : M_124 229 39 = M_112 229 39 := (f_127 229 39 (by omega))
              refine g_callVv (n := 97) (As := []) (rest := []) hx (ctX10_blanks Γ M_124 ) mlX10_268 (obX10 (by decide)) (dq tX10_term 46 rfl) rfl (Nat.le_of_ble_eq_true rfl) (Nat.le_of_ble_eq_true rfl) (Nat.le_of_ble_eq_true rfl) rfl (fun M_136 p_138 => ?_)
              obtain ⟨f_139, h_140, h_141⟩ := p_138
              have g_142 : Kp M M_136 := Kp.frame g_130 (fun c j hcj => f_139 c j (by omega))
              have g_143 : Rd M_136 ua (ud + 1) un us := Rd.mv g_131 (fun c j hcj => f_139 c j (by omega)) (by have q39 := f_139 229 39 (by omega); omega)
              refine g_goto (n := 8) hx (dq tX10_term 47 rfl) (by decide) ?_
              have e_144 : M_136 229 37 = M_124 229 37 := (f_139 229 37 (by omega))
              have e_145 : M_136 229 39 = M_124 229 39 := (f_139 229 39 (by omega))
              refine g_lv [1] rfl ?_
              exact ih_24 _ (by omega) M_136 (fun u_ v_ huv_ => (((((f_139 u_ v_ huv_.1).trans (f_127 u_ v_ ⟨huv_.2.1, huv_.2.2.1, huv_.2.2.2.1⟩)).trans (f_115 u_ v_ ⟨huv_.1, huv_.2.2.2.2.1, huv_.2.2.2.1, huv_.2.2.2.2.2, huv_.2.1, huv_.2.2.1⟩)).trans (m_106 u_ v_ huv_.1)).trans (f_25 u_ v_ ⟨huv_.1, huv_.2.1, huv_.2.2.1, huv_.2.2.2.1, huv_.2.2.2.2.1, huv_.2.2.2.2.2⟩))) g_142 g_143 (by first | assumption | omega) (by first | assumption | omega) rfl
          · refine g_bipush (n := 53) hx (dq tX10_term 23 rfl) rfl (by decide) ?_
            refine g_goto (n := 72) hx (dq tX10_term 24 rfl) (by decide) ?_
            refine g_istore_n (n := 73) (lv' := [(1, vI 13), (0, aR Γ 229)]) hx (dq tX10_term 32 rfl) (by decide) rfl rfl ?_
            refine g_aload_n (n := 74) hx 1 (dq tX10_term 33 rfl) rfl rfl ?_
            refine g_dup (n := 75) hx (dq tX10_term 34 rfl) rfl rfl ?_
            refine g_getI (n := 78) hx glX10_249 (sX10_38 (by decide)) (dq tX10_term 35 rfl) rfl (fun h_146l h_146u => ?_)
            refine g_iconst (n := 79) hx (dq tX10_term 36 rfl) rfl ?_
            refine g_iadd (n := 80) hx (dq tX10_term 37 rfl) rfl ?_
            refine g_putI (n := 83) hx plX10_249 (sX10_38 (by decide)) (dq tX10_term 38 rfl) rfl (by omega) (by omega) (fun M_147 m_148e m_148 => ?_)
            have g_149 : Kp M M_147 := Kp.frame g_26 (fun c j hcj => m_148 c j (by omega))
            have g_150 : Rd M_147 ua (ud + 1) un us := Rd.mv g_27 (fun c j hcj => m_148 c j (by omega)) (by have q39 := m_148 229 39 (by omega); omega)
            refine g_aload_n (n := 84) hx 1 (dq tX10_term 39 rfl) rfl rfl ?_
            have e_151 : M_147 229 37 = M_22 229 37 := (m_148 229 37 (by omega))
            have e_152 : M_147 229 39 = M_22 229 39 := (m_148 229 39 (by omega))
            refine g_callVv (n := 87) (As := []) (rest := []) hx (ctX10_value Γ M_147 ua (ud + 1) un us (by omega) (by omega) g_150) mlX10_306 (obX10 (by decide)) (dq tX10_term 40 rfl) rfl (Nat.le_of_ble_eq_true rfl) (Nat.le_of_ble_eq_true rfl) (Nat.le_of_ble_eq_true rfl) rfl (fun M_154 p_156 => ?_)
            obtain ⟨f_157, h_158, h_159, h_160, h_161⟩ := p_156
            have g_162 := Kp.trans g_149 h_159
            have g_163 : Rd M_154 ua (ud + 2) un us := Rd.to h_158 (by omega) (by omega) (by omega)
            refine g_aload_n (n := 88) hx 1 (dq tX10_term 41 rfl) rfl rfl ?_
            refine g_iload_n (n := 89) hx 0 (dq tX10_term 42 rfl) rfl rfl ?_
            refine g_iconst (n := 90) hx (dq tX10_term 43 rfl) rfl ?_
            have e_164 : M_154 229 37 = M_147 229 37 := (f_157 229 37 (by omega))
            refine g_callVv (n := 93) (As := [vI 13, vI 0]) (rest := []) hx (ctX10_entry2 Γ M_154 13 (by decide) (by decide) 0 (by decide) (by decide) ua (ud + 2) un us (by omega) (by omega) (by omega) g_163) mlX10_299 (obX10 (by decide)) (dq tX10_term 44 rfl) rfl (Nat.le_of_ble_eq_true rfl) (Nat.le_of_ble_eq_true rfl) (Nat.le_of_ble_eq_true rfl) rfl (fun M_166 p_168 => ?_)
            obtain ⟨f_169, h_170, h_171⟩ := p_168
            have g_172 := Kp.trans g_162 h_171
            have g_173 : Rd M_166 ua (ud + 1) un us := Rd.to h_170 (by omega) (by omega) (by omega)
            refine g_aload_n (n := 94) hx 1 (dq tX10_term 45 rfl) rfl rfl ?_
            have e_174 : M_166 229 37 = M_154 229 37 := (f_169 229 37 (by omega))
            have e_175 : M_166 229 38 = M_154 229 38 := (f_169 229 38 (by omega))
            have e_176 : M_166 229 39 = M_154 229 39 := (f_169 229 39 (by omega))
            refine g_callVv (n := 97) (As := []) (rest := []) hx (ctX10_blanks Γ M_166 ) mlX10_268 (obX10 (by decide)) (dq tX10_term 46 rfl) rfl (Nat.le_of_ble_eq_true rfl) (Nat.le_of_ble_eq_true rfl) (Nat.le_of_ble_eq_true rfl) rfl (fun M_178 p_180 => ?_)
            obtain ⟨f_181, h_182, h_183⟩ := p_180
            have g_184 : Kp M M_178 := Kp.frame g_172 (fun c j hcj => f_181 c j (by omega))
            have g_185 : Rd M_178 ua (ud + 1) un us := Rd.mv g_173 (fun c j hcj => f_181 c j (by omega)) (by have q39 := f_181 229 39 (by omega); omega)
            refine g_goto (n := 8) hx (dq tX10_term 47 rfl) (by decide) ?_
            have e_186 : M_178 229 37 = M_166 229 37 := (f_181 229 37 (by omega))
            have e_187 : M_178 229 39 = M_166 229 39 := (f_181 229 39 (by omega))
            refine g_lv [1] rfl ?_
            exact ih_24 _ (by omega) M_178 (fun u_ v_ huv_ => (((((f_181 u_ v_ huv_.1).trans (f_169 u_ v_ ⟨huv_.2.1, huv_.2.2.1, huv_.2.2.2.1⟩)).trans (f_157 u_ v_ ⟨huv_.1, huv_.2.2.2.2.1, huv_.2.2.2.1, huv_.2.2.2.2.2, huv_.2.1, huv_.2.2.1⟩)).trans (m_148 u_ v_ huv_.1)).trans (f_25 u_ v_ ⟨huv_.1, huv_.2.1, huv_.2.2.1, huv_.2.2.2.1, huv_.2.2.2.2.1, huv_.2.2.2.2.2⟩))) g_184 g_185 (by first | assumption | omega) (by first | assumption | omega) rfl
        · refine g_aload_n (n := 25) hx 0 (dq tX10_term 11 rfl) rfl rfl ?_
          refine g_callVi (n := 28) (As := []) (rest := []) hx (ctX10_sign Γ M_22 ) mlX10_252 (obX10 (by decide)) (dq tX10_term 12 rfl) rfl (Nat.le_of_ble_eq_true rfl) (Nat.le_of_ble_eq_true rfl) (Nat.le_of_ble_eq_true rfl) rfl (fun z_188 M_189 h_190 p_191 => ?_)
          obtain ⟨rfl, h_193, h_194, h_195⟩ := p_191
          refine g_bipush (n := 30) hx (dq tX10_term 13 rfl) rfl (by decide) ?_
          refine g_icmp_eq (n := 33) (t := 42) hx (dq tX10_term 14 rfl) (by decide) rfl h_190 ⟨by decide, by decide⟩ (fun c_196 => ?_) (fun c_196 => ?_)
          · refine g_aload_n (n := 43) hx 0 (dq tX10_term 19 rfl) rfl rfl ?_
            refine g_callVi (n := 46) (As := []) (rest := []) hx (ctX10_sign Γ M_22 ) mlX10_252 (obX10 (by decide)) (dq tX10_term 20 rfl) rfl (Nat.le_of_ble_eq_true rfl) (Nat.le_of_ble_eq_true rfl) (Nat.le_of_ble_eq_true rfl) rfl (fun z_197 M_198 h_199 p_200 => ?_)
            obtain ⟨rfl, h_202, h_203, h_204⟩ := p_200
            refine g_bipush (n := 48) hx (dq tX10_term 21 rfl) rfl (by decide) ?_
            refine g_icmp_ne (n := 51) (t := 56) hx (dq tX10_term 22 rfl) (by decide) rfl h_199 ⟨by decide, by decide⟩ (fun c_205 => ?_) (fun c_205 => ?_)
            · refine g_aload_n (n := 57) hx 0 (dq tX10_term 25 rfl) rfl rfl ?_
              refine g_callVi (n := 60) (As := []) (rest := []) hx (ctX10_sign Γ M_22 ) mlX10_252 (obX10 (by decide)) (dq tX10_term 26 rfl) rfl (Nat.le_of_ble_eq_true rfl) (Nat.le_of_ble_eq_true rfl) (Nat.le_of_ble_eq_true rfl) rfl (fun z_206 M_207 h_208 p_209 => ?_)
              obtain ⟨rfl, h_211, h_212, h_213⟩ := p_209
              refine g_bipush (n := 62) hx (dq tX10_term 27 rfl) rfl (by decide) ?_
              refine g_icmp_ne (n := 65) (t := 70) hx (dq tX10_term 28 rfl) (by decide) rfl h_208 ⟨by decide, by decide⟩ (fun c_214 => ?_) (fun c_214 => ?_)
              · refine g_bipush (n := 72) hx (dq tX10_term 31 rfl) rfl (by decide) ?_
                refine g_istore_n (n := 73) (lv' := [(1, vI 15), (0, aR Γ 229)]) hx (dq tX10_term 32 rfl) (by decide) rfl rfl ?_
                refine g_aload_n (n := 74) hx 1 (dq tX10_term 33 rfl) rfl rfl ?_
                refine g_dup (n := 75) hx (dq tX10_term 34 rfl) rfl rfl ?_
                refine g_getI (n := 78) hx glX10_249 (sX10_38 (by decide)) (dq tX10_term 35 rfl) rfl (fun h_215l h_215u => ?_)
                refine g_iconst (n := 79) hx (dq tX10_term 36 rfl) rfl ?_
                refine g_iadd (n := 80) hx (dq tX10_term 37 rfl) rfl ?_
                refine g_putI (n := 83) hx plX10_249 (sX10_38 (by decide)) (dq tX10_term 38 rfl) rfl (by omega) (by omega) (fun M_216 m_217e m_217 => ?_)
                have g_218 : Kp M M_216 := Kp.frame g_26 (fun c j hcj => m_217 c j (by omega))
                have g_219 : Rd M_216 ua (ud + 1) un us := Rd.mv g_27 (fun c j hcj => m_217 c j (by omega)) (by have q39 := m_217 229 39 (by omega); omega)
                refine g_aload_n (n := 84) hx 1 (dq tX10_term 39 rfl) rfl rfl ?_
                have e_220 : M_216 229 37 = M_22 229 37 := (m_217 229 37 (by omega))
                have e_221 : M_216 229 39 = M_22 229 39 := (m_217 229 39 (by omega))
                refine g_callVv (n := 87) (As := []) (rest := []) hx (ctX10_value Γ M_216 ua (ud + 1) un us (by omega) (by omega) g_219) mlX10_306 (obX10 (by decide)) (dq tX10_term 40 rfl) rfl (Nat.le_of_ble_eq_true rfl) (Nat.le_of_ble_eq_true rfl) (Nat.le_of_ble_eq_true rfl) rfl (fun M_223 p_225 => ?_)
                obtain ⟨f_226, h_227, h_228, h_229, h_230⟩ := p_225
                have g_231 := Kp.trans g_218 h_228
                have g_232 : Rd M_223 ua (ud + 2) un us := Rd.to h_227 (by omega) (by omega) (by omega)
                refine g_aload_n (n := 88) hx 1 (dq tX10_term 41 rfl) rfl rfl ?_
                refine g_iload_n (n := 89) hx 0 (dq tX10_term 42 rfl) rfl rfl ?_
                refine g_iconst (n := 90) hx (dq tX10_term 43 rfl) rfl ?_
                have e_233 : M_223 229 37 = M_216 229 37 := (f_226 229 37 (by omega))
                refine g_callVv (n := 93) (As := [vI 15, vI 0]) (rest := []) hx (ctX10_entry2 Γ M_223 15 (by decide) (by decide) 0 (by decide) (by decide) ua (ud + 2) un us (by omega) (by omega) (by omega) g_232) mlX10_299 (obX10 (by decide)) (dq tX10_term 44 rfl) rfl (Nat.le_of_ble_eq_true rfl) (Nat.le_of_ble_eq_true rfl) (Nat.le_of_ble_eq_true rfl) rfl (fun M_235 p_237 => ?_)
                obtain ⟨f_238, h_239, h_240⟩ := p_237
                have g_241 := Kp.trans g_231 h_240
                have g_242 : Rd M_235 ua (ud + 1) un us := Rd.to h_239 (by omega) (by omega) (by omega)
                refine g_aload_n (n := 94) hx 1 (dq tX10_term 45 rfl) rfl rfl ?_
                have e_243 : M_235 229 37 = M_223 229 37 := (f_238 229 37 (by omega))
                have e_244 : M_235 229 38 = M_223 229 38 := (f_238 229 38 (by omega))
                have e_245 : M_235 229 39 = M_223 229 39 := (f_238 229 39 (by omega))
                refine g_callVv (n := 97) (As := []) (rest := []) hx (ctX10_blanks Γ M_235 ) mlX10_268 (obX10 (by decide)) (dq tX10_term 46 rfl) rfl (Nat.le_of_ble_eq_true rfl) (Nat.le_of_ble_eq_true rfl) (Nat.le_of_ble_eq_true rfl) rfl (fun M_247 p_249 => ?_)
                obtain ⟨f_250, h_251, h_252⟩ := p_249
                have g_253 : Kp M M_247 := Kp.frame g_241 (fun c j hcj => f_250 c j (by omega))
                have g_254 : Rd M_247 ua (ud + 1) un us := Rd.mv g_242 (fun c j hcj => f_250 c j (by omega)) (by have q39 := f_250 229 39 (by omega); omega)
                refine g_goto (n := 8) hx (dq tX10_term 47 rfl) (by decide) ?_
                have e_255 : M_247 229 37 = M_235 229 37 := (f_250 229 37 (by omega))
                have e_256 : M_247 229 39 = M_235 229 39 := (f_250 229 39 (by omega))
                refine g_lv [1] rfl ?_
                exact ih_24 _ (by omega) M_247 (fun u_ v_ huv_ => (((((f_250 u_ v_ huv_.1).trans (f_238 u_ v_ ⟨huv_.2.1, huv_.2.2.1, huv_.2.2.2.1⟩)).trans (f_226 u_ v_ ⟨huv_.1, huv_.2.2.2.2.1, huv_.2.2.2.1, huv_.2.2.2.2.2, huv_.2.1, huv_.2.2.1⟩)).trans (m_217 u_ v_ huv_.1)).trans (f_25 u_ v_ ⟨huv_.1, huv_.2.1, huv_.2.2.1, huv_.2.2.2.1, huv_.2.2.2.2.1, huv_.2.2.2.2.2⟩))) g_253 g_254 (by first | assumption | omega) (by first | assumption | omega) rfl
              · refine g_bipush (n := 67) hx (dq tX10_term 29 rfl) rfl (by decide) ?_
                refine g_goto (n := 72) hx (dq tX10_term 30 rfl) (by decide) ?_
                refine g_istore_n (n := 73) (lv' := [(1, vI 14), (0, aR Γ 229)]) hx (dq tX10_term 32 rfl) (by decide) rfl rfl ?_
                refine g_aload_n (n := 74) hx 1 (dq tX10_term 33 rfl) rfl rfl ?_
                refine g_dup (n := 75) hx (dq tX10_term 34 rfl) rfl rfl ?_
                refine g_getI (n := 78) hx glX10_249 (sX10_38 (by decide)) (dq tX10_term 35 rfl) rfl (fun h_257l h_257u => ?_)
                refine g_iconst (n := 79) hx (dq tX10_term 36 rfl) rfl ?_
                refine g_iadd (n := 80) hx (dq tX10_term 37 rfl) rfl ?_
                refine g_putI (n := 83) hx plX10_249 (sX10_38 (by decide)) (dq tX10_term 38 rfl) rfl (by omega) (by omega) (fun M_258 m_259e m_259 => ?_)
                have g_260 : Kp M M_258 := Kp.frame g_26 (fun c j hcj => m_259 c j (by omega))
                have g_261 : Rd M_258 ua (ud + 1) un us := Rd.mv g_27 (fun c j hcj => m_259 c j (by omega)) (by have q39 := m_259 229 39 (by omega); omega)
                refine g_aload_n (n := 84) hx 1 (dq tX10_term 39 rfl) rfl rfl ?_
                have e_262 : M_258 229 37 = M_22 229 37 := (m_259 229 37 (by omega))
                have e_263 : M_258 229 39 = M_22 229 39 := (m_259 229 39 (by omega))
                refine g_callVv (n := 87) (As := []) (rest := []) hx (ctX10_value Γ M_258 ua (ud + 1) un us (by omega) (by omega) g_261) mlX10_306 (obX10 (by decide)) (dq tX10_term 40 rfl) rfl (Nat.le_of_ble_eq_true rfl) (Nat.le_of_ble_eq_true rfl) (Nat.le_of_ble_eq_true rfl) rfl (fun M_265 p_267 => ?_)
                obtain ⟨f_268, h_269, h_270, h_271, h_272⟩ := p_267
                have g_273 := Kp.trans g_260 h_270
                have g_274 : Rd M_265 ua (ud + 2) un us := Rd.to h_269 (by omega) (by omega) (by omega)
                refine g_aload_n (n := 88) hx 1 (dq tX10_term 41 rfl) rfl rfl ?_
                refine g_iload_n (n := 89) hx 0 (dq tX10_term 42 rfl) rfl rfl ?_
                refine g_iconst (n := 90) hx (dq tX10_term 43 rfl) rfl ?_
                have e_275 : M_265 229 37 = M_258 229 37 := (f_268 229 37 (by omega))
                refine g_callVv (n := 93) (As := [vI 14, vI 0]) (rest := []) hx (ctX10_entry2 Γ M_265 14 (by decide) (by decide) 0 (by decide) (by decide) ua (ud + 2) un us (by omega) (by omega) (by omega) g_274) mlX10_299 (obX10 (by decide)) (dq tX10_term 44 rfl) rfl (Nat.le_of_ble_eq_true rfl) (Nat.le_of_ble_eq_true rfl) (Nat.le_of_ble_eq_true rfl) rfl (fun M_277 p_279 => ?_)
                obtain ⟨f_280, h_281, h_282⟩ := p_279
                have g_283 := Kp.trans g_273 h_282
                have g_284 : Rd M_277 ua (ud + 1) un us := Rd.to h_281 (by omega) (by omega) (by omega)
                refine g_aload_n (n := 94) hx 1 (dq tX10_term 45 rfl) rfl rfl ?_
                have e_285 : M_277 229 37 = M_265 229 37 := (f_280 229 37 (by omega))
                have e_286 : M_277 229 38 = M_265 229 38 := (f_280 229 38 (by omega))
                have e_287 : M_277 229 39 = M_265 229 39 := (f_280 229 39 (by omega))
                refine g_callVv (n := 97) (As := []) (rest := []) hx (ctX10_blanks Γ M_277 ) mlX10_268 (obX10 (by decide)) (dq tX10_term 46 rfl) rfl (Nat.le_of_ble_eq_true rfl) (Nat.le_of_ble_eq_true rfl) (Nat.le_of_ble_eq_true rfl) rfl (fun M_289 p_291 => ?_)
                obtain ⟨f_292, h_293, h_294⟩ := p_291
                have g_295 : Kp M M_289 := Kp.frame g_283 (fun c j hcj => f_292 c j (by omega))
                have g_296 : Rd M_289 ua (ud + 1) un us := Rd.mv g_284 (fun c j hcj => f_292 c j (by omega)) (by have q39 := f_292 229 39 (by omega); omega)
                refine g_goto (n := 8) hx (dq tX10_term 47 rfl) (by decide) ?_
                have e_297 : M_289 229 37 = M_277 229 37 := (f_292 229 37 (by omega))
                have e_298 : M_289 229 39 = M_277 229 39 := (f_292 229 39 (by omega))
                refine g_lv [1] rfl ?_
                exact ih_24 _ (by omega) M_289 (fun u_ v_ huv_ => (((((f_292 u_ v_ huv_.1).trans (f_280 u_ v_ ⟨huv_.2.1, huv_.2.2.1, huv_.2.2.2.1⟩)).trans (f_268 u_ v_ ⟨huv_.1, huv_.2.2.2.2.1, huv_.2.2.2.1, huv_.2.2.2.2.2, huv_.2.1, huv_.2.2.1⟩)).trans (m_259 u_ v_ huv_.1)).trans (f_25 u_ v_ ⟨huv_.1, huv_.2.1, huv_.2.2.1, huv_.2.2.2.1, huv_.2.2.2.2.1, huv_.2.2.2.2.2⟩))) g_295 g_296 (by first | assumption | omega) (by first | assumption | omega) rfl
            · refine g_bipush (n := 53) hx (dq tX10_term 23 rfl) rfl (by decide) ?_
              refine g_goto (n := 72) hx (dq tX10_term 24 rfl) (by decide) ?_
              refine g_istore_n (n := 73) (lv' := [(1, vI 13), (0, aR Γ 229)]) hx (dq tX10_term 32 rfl) (by decide) rfl rfl ?_
              refine g_aload_n (n := 74) hx 1 (dq tX10_term 33 rfl) rfl rfl ?_
              refine g_dup (n := 75) hx (dq tX10_term 34 rfl) rfl rfl ?_
              refine g_getI (n := 78) hx glX10_249 (sX10_38 (by decide)) (dq tX10_term 35 rfl) rfl (fun h_299l h_299u => ?_)
              refine g_iconst (n := 79) hx (dq tX10_term 36 rfl) rfl ?_
              refine g_iadd (n := 80) hx (dq tX10_term 37 rfl) rfl ?_
              refine g_putI (n := 83) hx plX10_249 (sX10_38 (by decide)) (dq tX10_term 38 rfl) rfl (by omega) (by omega) (fun M_300 m_301e m_301 => ?_)
              have g_302 : Kp M M_300 := Kp.frame g_26 (fun c j hcj => m_301 c j (by omega))
              have g_303 : Rd M_300 ua (ud + 1) un us := Rd.mv g_27 (fun c j hcj => m_301 c j (by omega)) (by have q39 := m_301 229 39 (by omega); omega)
              refine g_aload_n (n := 84) hx 1 (dq tX10_term 39 rfl) rfl rfl ?_
              have e_304 : M_300 229 37 = M_22 229 37 := (m_301 229 37 (by omega))
              have e_305 : M_300 229 39 = M_22 229 39 := (m_301 229 39 (by omega))
              refine g_callVv (n := 87) (As := []) (rest := []) hx (ctX10_value Γ M_300 ua (ud + 1) un us (by omega) (by omega) g_303) mlX10_306 (obX10 (by decide)) (dq tX10_term 40 rfl) rfl (Nat.le_of_ble_eq_true rfl) (Nat.le_of_ble_eq_true rfl) (Nat.le_of_ble_eq_true rfl) rfl (fun M_307 p_309 => ?_)
              obtain ⟨f_310, h_311, h_312, h_313, h_314⟩ := p_309
              have g_315 := Kp.trans g_302 h_312
              have g_316 : Rd M_307 ua (ud + 2) un us := Rd.to h_311 (by omega) (by omega) (by omega)
              refine g_aload_n (n := 88) hx 1 (dq tX10_term 41 rfl) rfl rfl ?_
              refine g_iload_n (n := 89) hx 0 (dq tX10_term 42 rfl) rfl rfl ?_
              refine g_iconst (n := 90) hx (dq tX10_term 43 rfl) rfl ?_
              have e_317 : M_307 229 37 = M_300 229 37 := (f_310 229 37 (by omega))
              refine g_callVv (n := 93) (As := [vI 13, vI 0]) (rest := []) hx (ctX10_entry2 Γ M_307 13 (by decide) (by decide) 0 (by decide) (by decide) ua (ud + 2) un us (by omega) (by omega) (by omega) g_316) mlX10_299 (obX10 (by decide)) (dq tX10_term 44 rfl) rfl (Nat.le_of_ble_eq_true rfl) (Nat.le_of_ble_eq_true rfl) (Nat.le_of_ble_eq_true rfl) rfl (fun M_319 p_321 => ?_)
              obtain ⟨f_322, h_323, h_324⟩ := p_321
              have g_325 := Kp.trans g_315 h_324
              have g_326 : Rd M_319 ua (ud + 1) un us := Rd.to h_323 (by omega) (by omega) (by omega)
              refine g_aload_n (n := 94) hx 1 (dq tX10_term 45 rfl) rfl rfl ?_
              have e_327 : M_319 229 37 = M_307 229 37 := (f_322 229 37 (by omega))
              have e_328 : M_319 229 38 = M_307 229 38 := (f_322 229 38 (by omega))
              have e_329 : M_319 229 39 = M_307 229 39 := (f_322 229 39 (by omega))
              refine g_callVv (n := 97) (As := []) (rest := []) hx (ctX10_blanks Γ M_319 ) mlX10_268 (obX10 (by decide)) (dq tX10_term 46 rfl) rfl (Nat.le_of_ble_eq_true rfl) (Nat.le_of_ble_eq_true rfl) (Nat.le_of_ble_eq_true rfl) rfl (fun M_331 p_333 => ?_)
              obtain ⟨f_334, h_335, h_336⟩ := p_333
              have g_337 : Kp M M_331 := Kp.frame g_325 (fun c j hcj => f_334 c j (by omega))
              have g_338 : Rd M_331 ua (ud + 1) un us := Rd.mv g_326 (fun c j hcj => f_334 c j (by omega)) (by have q39 := f_334 229 39 (by omega); omega)
              refine g_goto (n := 8) hx (dq tX10_term 47 rfl) (by decide) ?_
              have e_339 : M_331 229 37 = M_319 229 37 := (f_334 229 37 (by omega))
              have e_340 : M_331 229 39 = M_319 229 39 := (f_334 229 39 (by omega))
              refine g_lv [1] rfl ?_
              exact ih_24 _ (by omega) M_331 (fun u_ v_ huv_ => (((((f_334 u_ v_ huv_.1).trans (f_322 u_ v_ ⟨huv_.2.1, huv_.2.2.1, huv_.2.2.2.1⟩)).trans (f_310 u_ v_ ⟨huv_.1, huv_.2.2.2.2.1, huv_.2.2.2.1, huv_.2.2.2.2.2, huv_.2.1, huv_.2.2.1⟩)).trans (m_301 u_ v_ huv_.1)).trans (f_25 u_ v_ ⟨huv_.1, huv_.2.1, huv_.2.2.1, huv_.2.2.2.1, huv_.2.2.2.2.1, huv_.2.2.2.2.2⟩))) g_337 g_338 (by first | assumption | omega) (by first | assumption | omega) rfl
          · refine g_aload_n (n := 34) hx 0 (dq tX10_term 15 rfl) rfl rfl ?_
            refine g_callVi (n := 37) (As := []) (rest := []) hx (ctX10_sign Γ M_22 ) mlX10_252 (obX10 (by decide)) (dq tX10_term 16 rfl) rfl (Nat.le_of_ble_eq_true rfl) (Nat.le_of_ble_eq_true rfl) (Nat.le_of_ble_eq_true rfl) rfl (fun z_341 M_342 h_343 p_344 => ?_)
            obtain ⟨rfl, h_346, h_347, h_348⟩ := p_344
            refine g_bipush (n := 39) hx (dq tX10_term 17 rfl) rfl (by decide) ?_
            refine g_icmp_ne (n := 42) (t := 100) hx (dq tX10_term 18 rfl) (by decide) rfl h_343 ⟨by decide, by decide⟩ (fun c_349 => ?_) (fun c_349 => ?_)
            · exact g_vret hx hr (dq tX10_term 48 rfl) ⟨(fun u_ v_ huv_ => (((f_25 u_ v_ ⟨huv_.1, huv_.2.2.2.2.1, huv_.2.2.2.2.2, huv_.2.2.1, huv_.2.1, huv_.2.2.2.1⟩).trans (f_17 u_ v_ huv_.1)).trans (f_5 u_ v_ ⟨huv_.1, huv_.2.1, huv_.2.2.1, huv_.2.2.2.1, huv_.2.2.2.2.1, huv_.2.2.2.2.2⟩))), (Rd.to g_27 (by omega) (by omega) (by omega)), g_26, (by omega), (by omega)⟩
            · refine g_aload_n (n := 43) hx 0 (dq tX10_term 19 rfl) rfl rfl ?_
              refine g_callVi (n := 46) (As := []) (rest := []) hx (ctX10_sign Γ M_22 ) mlX10_252 (obX10 (by decide)) (dq tX10_term 20 rfl) rfl (Nat.le_of_ble_eq_true rfl) (Nat.le_of_ble_eq_true rfl) (Nat.le_of_ble_eq_true rfl) rfl (fun z_350 M_351 h_352 p_353 => ?_)
              obtain ⟨rfl, h_355, h_356, h_357⟩ := p_353
              refine g_bipush (n := 48) hx (dq tX10_term 21 rfl) rfl (by decide) ?_
              refine g_icmp_ne (n := 51) (t := 56) hx (dq tX10_term 22 rfl) (by decide) rfl h_352 ⟨by decide, by decide⟩ (fun c_358 => ?_) (fun c_358 => ?_)
              · refine g_aload_n (n := 57) hx 0 (dq tX10_term 25 rfl) rfl rfl ?_
                refine g_callVi (n := 60) (As := []) (rest := []) hx (ctX10_sign Γ M_22 ) mlX10_252 (obX10 (by decide)) (dq tX10_term 26 rfl) rfl (Nat.le_of_ble_eq_true rfl) (Nat.le_of_ble_eq_true rfl) (Nat.le_of_ble_eq_true rfl) rfl (fun z_359 M_360 h_361 p_362 => ?_)
                obtain ⟨rfl, h_364, h_365, h_366⟩ := p_362
                refine g_bipush (n := 62) hx (dq tX10_term 27 rfl) rfl (by decide) ?_
                refine g_icmp_ne (n := 65) (t := 70) hx (dq tX10_term 28 rfl) (by decide) rfl h_361 ⟨by decide, by decide⟩ (fun c_367 => ?_) (fun c_367 => ?_)
                · refine g_bipush (n := 72) hx (dq tX10_term 31 rfl) rfl (by decide) ?_
                  refine g_istore_n (n := 73) (lv' := [(1, vI 15), (0, aR Γ 229)]) hx (dq tX10_term 32 rfl) (by decide) rfl rfl ?_
                  refine g_aload_n (n := 74) hx 1 (dq tX10_term 33 rfl) rfl rfl ?_
                  refine g_dup (n := 75) hx (dq tX10_term 34 rfl) rfl rfl ?_
                  refine g_getI (n := 78) hx glX10_249 (sX10_38 (by decide)) (dq tX10_term 35 rfl) rfl (fun h_368l h_368u => ?_)
                  refine g_iconst (n := 79) hx (dq tX10_term 36 rfl) rfl ?_
                  refine g_iadd (n := 80) hx (dq tX10_term 37 rfl) rfl ?_
                  refine g_putI (n := 83) hx plX10_249 (sX10_38 (by decide)) (dq tX10_term 38 rfl) rfl (by omega) (by omega) (fun M_369 m_370e m_370 => ?_)
                  have g_371 : Kp M M_369 := Kp.frame g_26 (fun c j hcj => m_370 c j (by omega))
                  have g_372 : Rd M_369 ua (ud + 1) un us := Rd.mv g_27 (fun c j hcj => m_370 c j (by omega)) (by have q39 := m_370 229 39 (by omega); omega)
                  refine g_aload_n (n := 84) hx 1 (dq tX10_term 39 rfl) rfl rfl ?_
                  have e_373 : M_369 229 37 = M_22 229 37 := (m_370 229 37 (by omega))
                  have e_374 : M_369 229 39 = M_22 229 39 := (m_370 229 39 (by omega))
                  refine g_callVv (n := 87) (As := []) (rest := []) hx (ctX10_value Γ M_369 ua (ud + 1) un us (by omega) (by omega) g_372) mlX10_306 (obX10 (by decide)) (dq tX10_term 40 rfl) rfl (Nat.le_of_ble_eq_true rfl) (Nat.le_of_ble_eq_true rfl) (Nat.le_of_ble_eq_true rfl) rfl (fun M_376 p_378 => ?_)
                  obtain ⟨f_379, h_380, h_381, h_382, h_383⟩ := p_378
                  have g_384 := Kp.trans g_371 h_381
                  have g_385 : Rd M_376 ua (ud + 2) un us := Rd.to h_380 (by omega) (by omega) (by omega)
                  refine g_aload_n (n := 88) hx 1 (dq tX10_term 41 rfl) rfl rfl ?_
                  refine g_iload_n (n := 89) hx 0 (dq tX10_term 42 rfl) rfl rfl ?_
                  refine g_iconst (n := 90) hx (dq tX10_term 43 rfl) rfl ?_
                  have e_386 : M_376 229 37 = M_369 229 37 := (f_379 229 37 (by omega))
                  refine g_callVv (n := 93) (As := [vI 15, vI 0]) (rest := []) hx (ctX10_entry2 Γ M_376 15 (by decide) (by decide) 0 (by decide) (by decide) ua (ud + 2) un us (by omega) (by omega) (by omega) g_385) mlX10_299 (obX10 (by decide)) (dq tX10_term 44 rfl) rfl (Nat.le_of_ble_eq_true rfl) (Nat.le_of_ble_eq_true rfl) (Nat.le_of_ble_eq_true rfl) rfl (fun M_388 p_390 => ?_)
                  obtain ⟨f_391, h_392, h_393⟩ := p_390
                  have g_394 := Kp.trans g_384 h_393
                  have g_395 : Rd M_388 ua (ud + 1) un us := Rd.to h_392 (by omega) (by omega) (by omega)
                  refine g_aload_n (n := 94) hx 1 (dq tX10_term 45 rfl) rfl rfl ?_
                  have e_396 : M_388 229 37 = M_376 229 37 := (f_391 229 37 (by omega))
                  have e_397 : M_388 229 38 = M_376 229 38 := (f_391 229 38 (by omega))
                  have e_398 : M_388 229 39 = M_376 229 39 := (f_391 229 39 (by omega))
                  refine g_callVv (n := 97) (As := []) (rest := []) hx (ctX10_blanks Γ M_388 ) mlX10_268 (obX10 (by decide)) (dq tX10_term 46 rfl) rfl (Nat.le_of_ble_eq_true rfl) (Nat.le_of_ble_eq_true rfl) (Nat.le_of_ble_eq_true rfl) rfl (fun M_400 p_402 => ?_)
                  obtain ⟨f_403, h_404, h_405⟩ := p_402
                  have g_406 : Kp M M_400 := Kp.frame g_394 (fun c j hcj => f_403 c j (by omega))
                  have g_407 : Rd M_400 ua (ud + 1) un us := Rd.mv g_395 (fun c j hcj => f_403 c j (by omega)) (by have q39 := f_403 229 39 (by omega); omega)
                  refine g_goto (n := 8) hx (dq tX10_term 47 rfl) (by decide) ?_
                  have e_408 : M_400 229 37 = M_388 229 37 := (f_403 229 37 (by omega))
                  have e_409 : M_400 229 39 = M_388 229 39 := (f_403 229 39 (by omega))
                  refine g_lv [1] rfl ?_
                  exact ih_24 _ (by omega) M_400 (fun u_ v_ huv_ => (((((f_403 u_ v_ huv_.1).trans (f_391 u_ v_ ⟨huv_.2.1, huv_.2.2.1, huv_.2.2.2.1⟩)).trans (f_379 u_ v_ ⟨huv_.1, huv_.2.2.2.2.1, huv_.2.2.2.1, huv_.2.2.2.2.2, huv_.2.1, huv_.2.2.1⟩)).trans (m_370 u_ v_ huv_.1)).trans (f_25 u_ v_ ⟨huv_.1, huv_.2.1, huv_.2.2.1, huv_.2.2.2.1, huv_.2.2.2.2.1, huv_.2.2.2.2.2⟩))) g_406 g_407 (by first | assumption | omega) (by first | assumption | omega) rfl
                · refine g_bipush (n := 67) hx (dq tX10_term 29 rfl) rfl (by decide) ?_
                  refine g_goto (n := 72) hx (dq tX10_term 30 rfl) (by decide) ?_
                  refine g_istore_n (n := 73) (lv' := [(1, vI 14), (0, aR Γ 229)]) hx (dq tX10_term 32 rfl) (by decide) rfl rfl ?_
                  refine g_aload_n (n := 74) hx 1 (dq tX10_term 33 rfl) rfl rfl ?_
                  refine g_dup (n := 75) hx (dq tX10_term 34 rfl) rfl rfl ?_
                  refine g_getI (n := 78) hx glX10_249 (sX10_38 (by decide)) (dq tX10_term 35 rfl) rfl (fun h_410l h_410u => ?_)
                  refine g_iconst (n := 79) hx (dq tX10_term 36 rfl) rfl ?_
                  refine g_iadd (n := 80) hx (dq tX10_term 37 rfl) rfl ?_
                  refine g_putI (n := 83) hx plX10_249 (sX10_38 (by decide)) (dq tX10_term 38 rfl) rfl (by omega) (by omega) (fun M_411 m_412e m_412 => ?_)
                  have g_413 : Kp M M_411 := Kp.frame g_26 (fun c j hcj => m_412 c j (by omega))
                  have g_414 : Rd M_411 ua (ud + 1) un us := Rd.mv g_27 (fun c j hcj => m_412 c j (by omega)) (by have q39 := m_412 229 39 (by omega); omega)
                  refine g_aload_n (n := 84) hx 1 (dq tX10_term 39 rfl) rfl rfl ?_
                  have e_415 : M_411 229 37 = M_22 229 37 := (m_412 229 37 (by omega))
                  have e_416 : M_411 229 39 = M_22 229 39 := (m_412 229 39 (by omega))
                  refine g_callVv (n := 87) (As := []) (rest := []) hx (ctX10_value Γ M_411 ua (ud + 1) un us (by omega) (by omega) g_414) mlX10_306 (obX10 (by decide)) (dq tX10_term 40 rfl) rfl (Nat.le_of_ble_eq_true rfl) (Nat.le_of_ble_eq_true rfl) (Nat.le_of_ble_eq_true rfl) rfl (fun M_418 p_420 => ?_)
                  obtain ⟨f_421, h_422, h_423, h_424, h_425⟩ := p_420
                  have g_426 := Kp.trans g_413 h_423
                  have g_427 : Rd M_418 ua (ud + 2) un us := Rd.to h_422 (by omega) (by omega) (by omega)
                  refine g_aload_n (n := 88) hx 1 (dq tX10_term 41 rfl) rfl rfl ?_
                  refine g_iload_n (n := 89) hx 0 (dq tX10_term 42 rfl) rfl rfl ?_
                  refine g_iconst (n := 90) hx (dq tX10_term 43 rfl) rfl ?_
                  have e_428 : M_418 229 37 = M_411 229 37 := (f_421 229 37 (by omega))
                  refine g_callVv (n := 93) (As := [vI 14, vI 0]) (rest := []) hx (ctX10_entry2 Γ M_418 14 (by decide) (by decide) 0 (by decide) (by decide) ua (ud + 2) un us (by omega) (by omega) (by omega) g_427) mlX10_299 (obX10 (by decide)) (dq tX10_term 44 rfl) rfl (Nat.le_of_ble_eq_true rfl) (Nat.le_of_ble_eq_true rfl) (Nat.le_of_ble_eq_true rfl) rfl (fun M_430 p_432 => ?_)
                  obtain ⟨f_433, h_434, h_435⟩ := p_432
                  have g_436 := Kp.trans g_426 h_435
                  have g_437 : Rd M_430 ua (ud + 1) un us := Rd.to h_434 (by omega) (by omega) (by omega)
                  refine g_aload_n (n := 94) hx 1 (dq tX10_term 45 rfl) rfl rfl ?_
                  have e_438 : M_430 229 37 = M_418 229 37 := (f_433 229 37 (by omega))
                  have e_439 : M_430 229 38 = M_418 229 38 := (f_433 229 38 (by omega))
                  have e_440 : M_430 229 39 = M_418 229 39 := (f_433 229 39 (by omega))
                  refine g_callVv (n := 97) (As := []) (rest := []) hx (ctX10_blanks Γ M_430 ) mlX10_268 (obX10 (by decide)) (dq tX10_term 46 rfl) rfl (Nat.le_of_ble_eq_true rfl) (Nat.le_of_ble_eq_true rfl) (Nat.le_of_ble_eq_true rfl) rfl (fun M_442 p_444 => ?_)
                  obtain ⟨f_445, h_446, h_447⟩ := p_444
                  have g_448 : Kp M M_442 := Kp.frame g_436 (fun c j hcj => f_445 c j (by omega))
                  have g_449 : Rd M_442 ua (ud + 1) un us := Rd.mv g_437 (fun c j hcj => f_445 c j (by omega)) (by have q39 := f_445 229 39 (by omega); omega)
                  refine g_goto (n := 8) hx (dq tX10_term 47 rfl) (by decide) ?_
                  have e_450 : M_442 229 37 = M_430 229 37 := (f_445 229 37 (by omega))
                  have e_451 : M_442 229 39 = M_430 229 39 := (f_445 229 39 (by omega))
                  refine g_lv [1] rfl ?_
                  exact ih_24 _ (by omega) M_442 (fun u_ v_ huv_ => (((((f_445 u_ v_ huv_.1).trans (f_433 u_ v_ ⟨huv_.2.1, huv_.2.2.1, huv_.2.2.2.1⟩)).trans (f_421 u_ v_ ⟨huv_.1, huv_.2.2.2.2.1, huv_.2.2.2.1, huv_.2.2.2.2.2, huv_.2.1, huv_.2.2.1⟩)).trans (m_412 u_ v_ huv_.1)).trans (f_25 u_ v_ ⟨huv_.1, huv_.2.1, huv_.2.2.1, huv_.2.2.2.1, huv_.2.2.2.2.1, huv_.2.2.2.2.2⟩))) g_448 g_449 (by first | assumption | omega) (by first | assumption | omega) rfl
              · refine g_bipush (n := 53) hx (dq tX10_term 23 rfl) rfl (by decide) ?_
                refine g_goto (n := 72) hx (dq tX10_term 24 rfl) (by decide) ?_
                refine g_istore_n (n := 73) (lv' := [(1, vI 13), (0, aR Γ 229)]) hx (dq tX10_term 32 rfl) (by decide) rfl rfl ?_
                refine g_aload_n (n := 74) hx 1 (dq tX10_term 33 rfl) rfl rfl ?_
                refine g_dup (n := 75) hx (dq tX10_term 34 rfl) rfl rfl ?_
                refine g_getI (n := 78) hx glX10_249 (sX10_38 (by decide)) (dq tX10_term 35 rfl) rfl (fun h_452l h_452u => ?_)
                refine g_iconst (n := 79) hx (dq tX10_term 36 rfl) rfl ?_
                refine g_iadd (n := 80) hx (dq tX10_term 37 rfl) rfl ?_
                refine g_putI (n := 83) hx plX10_249 (sX10_38 (by decide)) (dq tX10_term 38 rfl) rfl (by omega) (by omega) (fun M_453 m_454e m_454 => ?_)
                have g_455 : Kp M M_453 := Kp.frame g_26 (fun c j hcj => m_454 c j (by omega))
                have g_456 : Rd M_453 ua (ud + 1) un us := Rd.mv g_27 (fun c j hcj => m_454 c j (by omega)) (by have q39 := m_454 229 39 (by omega); omega)
                refine g_aload_n (n := 84) hx 1 (dq tX10_term 39 rfl) rfl rfl ?_
                have e_457 : M_453 229 37 = M_22 229 37 := (m_454 229 37 (by omega))
                have e_458 : M_453 229 39 = M_22 229 39 := (m_454 229 39 (by omega))
                refine g_callVv (n := 87) (As := []) (rest := []) hx (ctX10_value Γ M_453 ua (ud + 1) un us (by omega) (by omega) g_456) mlX10_306 (obX10 (by decide)) (dq tX10_term 40 rfl) rfl (Nat.le_of_ble_eq_true rfl) (Nat.le_of_ble_eq_true rfl) (Nat.le_of_ble_eq_true rfl) rfl (fun M_460 p_462 => ?_)
                obtain ⟨f_463, h_464, h_465, h_466, h_467⟩ := p_462
                have g_468 := Kp.trans g_455 h_465
                have g_469 : Rd M_460 ua (ud + 2) un us := Rd.to h_464 (by omega) (by omega) (by omega)
                refine g_aload_n (n := 88) hx 1 (dq tX10_term 41 rfl) rfl rfl ?_
                refine g_iload_n (n := 89) hx 0 (dq tX10_term 42 rfl) rfl rfl ?_
                refine g_iconst (n := 90) hx (dq tX10_term 43 rfl) rfl ?_
                have e_470 : M_460 229 37 = M_453 229 37 := (f_463 229 37 (by omega))
                refine g_callVv (n := 93) (As := [vI 13, vI 0]) (rest := []) hx (ctX10_entry2 Γ M_460 13 (by decide) (by decide) 0 (by decide) (by decide) ua (ud + 2) un us (by omega) (by omega) (by omega) g_469) mlX10_299 (obX10 (by decide)) (dq tX10_term 44 rfl) rfl (Nat.le_of_ble_eq_true rfl) (Nat.le_of_ble_eq_true rfl) (Nat.le_of_ble_eq_true rfl) rfl (fun M_472 p_474 => ?_)
                obtain ⟨f_475, h_476, h_477⟩ := p_474
                have g_478 := Kp.trans g_468 h_477
                have g_479 : Rd M_472 ua (ud + 1) un us := Rd.to h_476 (by omega) (by omega) (by omega)
                refine g_aload_n (n := 94) hx 1 (dq tX10_term 45 rfl) rfl rfl ?_
                have e_480 : M_472 229 37 = M_460 229 37 := (f_475 229 37 (by omega))
                have e_481 : M_472 229 38 = M_460 229 38 := (f_475 229 38 (by omega))
                have e_482 : M_472 229 39 = M_460 229 39 := (f_475 229 39 (by omega))
                refine g_callVv (n := 97) (As := []) (rest := []) hx (ctX10_blanks Γ M_472 ) mlX10_268 (obX10 (by decide)) (dq tX10_term 46 rfl) rfl (Nat.le_of_ble_eq_true rfl) (Nat.le_of_ble_eq_true rfl) (Nat.le_of_ble_eq_true rfl) rfl (fun M_484 p_486 => ?_)
                obtain ⟨f_487, h_488, h_489⟩ := p_486
                have g_490 : Kp M M_484 := Kp.frame g_478 (fun c j hcj => f_487 c j (by omega))
                have g_491 : Rd M_484 ua (ud + 1) un us := Rd.mv g_479 (fun c j hcj => f_487 c j (by omega)) (by have q39 := f_487 229 39 (by omega); omega)
                refine g_goto (n := 8) hx (dq tX10_term 47 rfl) (by decide) ?_
                have e_492 : M_484 229 37 = M_472 229 37 := (f_487 229 37 (by omega))
                have e_493 : M_484 229 39 = M_472 229 39 := (f_487 229 39 (by omega))
                refine g_lv [1] rfl ?_
                exact ih_24 _ (by omega) M_484 (fun u_ v_ huv_ => (((((f_487 u_ v_ huv_.1).trans (f_475 u_ v_ ⟨huv_.2.1, huv_.2.2.1, huv_.2.2.2.1⟩)).trans (f_463 u_ v_ ⟨huv_.1, huv_.2.2.2.2.1, huv_.2.2.2.1, huv_.2.2.2.2.2, huv_.2.1, huv_.2.2.1⟩)).trans (m_454 u_ v_ huv_.1)).trans (f_25 u_ v_ ⟨huv_.1, huv_.2.1, huv_.2.2.1, huv_.2.2.2.1, huv_.2.2.2.2.1, huv_.2.2.2.2.2⟩))) g_490 g_491 (by first | assumption | omega) (by first | assumption | omega) rfl
  have e_494 : M_14 229 37 = M_2 229 37 := (f_17 229 37 (by omega))
  have e_495 : M_14 229 39 = M_2 229 39 := (f_17 229 39 (by omega))
  exact L_23 _ M_14 (fun _ _ _ => rfl) g_20 g_21 (by first | assumption | omega) (by first | assumption | omega) rfl

abbrev qctX10_sum (M : zM) (ua : Int) (ud : Int) (un : Int) (us : Int) (M' : zM) : Prop := (∀ u_ v_, (u_ ≠ 229 ∨ v_ ≠ 38) ∧ (u_ ≠ 229 ∨ v_ ≠ 39) ∧ (u_ ≠ 229 ∨ v_ ≠ 42) ∧ (u_ ≠ 229 ∨ v_ ≠ 44) ∧ u_ ≠ 229 + 38 ∧ u_ ≠ 229 + 39 → M' u_ v_ = M u_ v_) ∧ (Rd M' ua (ud + 1) un us) ∧ (Kp M M') ∧ (M 229 38 ≤ M' 229 38) ∧ (M' 229 38 = M 229 38 ∨ M' 229 38 ≤ M 229 37)
set_option maxHeartbeats 4000000 in
set_option maxRecDepth 100000 in
theorem ctX10_sum (Γ : Gam) (M : zM) (ua : Int) (ud : Int) (un : Int) (us : Int) (pre0 : 0 ≤ us) (pre1 : 0 ≤ ud) (ex0 : Rd M ua ud un us) : CtV Γ yX10_sum cX10_sum 2 none 7 152 [aR Γ 229] M (qctX10_sum M ua ud un us) := by
  refine met_v (by decide) (Nat.le_of_ble_eq_true rfl) (fun x hx hr => ?_)
  show G Γ x 2 (QV Γ x (qctX10_sum M ua ud un us)) M 0 [(0, aR Γ 229)] []
  refine g_iv (fun hI0 => ?_)
  have hI_37 : (0 : Int) ≤ M 229 37 ∧ M 229 37 ≤ 400 := hI0 229 37
  have hI_38 : (0 : Int) ≤ M 229 38 ∧ M 229 38 ≤ 402 := hI0 229 38
  have hI_45 : (0 : Int) ≤ M 229 45 ∧ M 229 45 ≤ 402 := hI0 229 45
  have hI_42 : (0 : Int) ≤ M 229 42 ∧ M 229 42 ≤ 300 := hI0 229 42
  have hI_39 : (0 : Int) ≤ M 229 39 ∧ M 229 39 ≤ 100000 := hI0 229 39
  have hI_40 : (0 : Int) ≤ M 229 40 ∧ M 229 40 ≤ 5 := hI0 229 40
  have hI_41 : (0 : Int) ≤ M 229 41 ∧ M 229 41 ≤ 6 := hI0 229 41
  clear hI0
  refine g_aload_n (n := 1) hx 0 (dq tX10_sum 0 rfl) rfl rfl ?_
  refine g_callVv (n := 4) (As := []) (rest := []) hx (ctX10_term Γ M ua ud un us (by omega) (by omega) ex0) mlX10_309 (obX10 (by decide)) (dq tX10_sum 1 rfl) rfl (Nat.le_of_ble_eq_true rfl) (Nat.le_of_ble_eq_true rfl) (Nat.le_of_ble_eq_true rfl) rfl (fun M_2 p_4 => ?_)
  obtain ⟨f_5, h_6, h_7, h_8, h_9⟩ := p_4
  have g_10 := Kp.trans Kp.refl h_7
  have g_11 : Rd M_2 ua (ud + 1) un us := Rd.to h_6 (by omega) (by omega) (by omega)
  have L_13 : ∀ (n_ : Nat) (M_12 : zM), (∀ u_ v_, u_ ≠ 229 + 38 ∧ u_ ≠ 229 + 39 ∧ (u_ ≠ 229 ∨ v_ ≠ 42) ∧ (u_ ≠ 229 ∨ v_ ≠ 38) ∧ (u_ ≠ 229 ∨ v_ ≠ 39) ∧ (u_ ≠ 229 ∨ v_ ≠ 44) → M_12 u_ v_ = M_2 u_ v_) → (Kp M M_12) → (Rd M_12 ua (ud + 1) un us) → (M 229 38 ≤ M_12 229 38) → (M_12 229 38 = M 229 38 ∨ M_12 229 38 ≤ M 229 37) → ((402 - M_12 229 38).toNat = n_) → G Γ x 2 (QV Γ x (qctX10_sum M ua ud un us)) M_12 4 [(0, aR Γ 229)] [] := by
    intro n_
    induction n_ using Nat.strongRecOn with
    | _ n_ ih_14 =>
      intro M_12 f_15 g_16 g_17 h_19 h_20 hm_18
      refine g_aload_n (n := 5) hx 0 (dq tX10_sum 2 rfl) rfl rfl ?_
      refine g_getI (n := 8) hx glX10_246 (sX10_39 (by decide)) (dq tX10_sum 3 rfl) rfl (fun h_21l h_21u => ?_)
      refine g_if_ne (n := 11) (t := 67) hx (dq tX10_sum 4 rfl) (by decide) rfl (zrI h_21l h_21u (by decide) (by decide)) (fun c_22 => ?_) (fun c_22 => ?_)
      · have e_23 : M_12 229 37 = M 229 37 := ((f_15 229 37 (by omega))).trans (f_5 229 37 (by omega))
        exact g_vret hx hr (dq tX10_sum 34 rfl) ⟨(fun u_ v_ huv_ => ((f_15 u_ v_ ⟨huv_.2.2.2.2.1, huv_.2.2.2.2.2, huv_.2.2.1, huv_.1, huv_.2.1, huv_.2.2.2.1⟩).trans (f_5 u_ v_ ⟨huv_.1, huv_.2.1, huv_.2.2.1, huv_.2.2.2.1, huv_.2.2.2.2.1, huv_.2.2.2.2.2⟩))), (Rd.to g_17 (by omega) (by omega) (by omega)), g_16, (by omega), (by omega)⟩
      · refine g_aload_n (n := 12) hx 0 (dq tX10_sum 5 rfl) rfl rfl ?_
        have e_24 : M_12 229 37 = M 229 37 := ((f_15 229 37 (by omega))).trans (f_5 229 37 (by omega))
        refine g_callVi (n := 15) (As := []) (rest := []) hx (ctX10_sign Γ M_12 ) mlX10_252 (obX10 (by decide)) (dq tX10_sum 6 rfl) rfl (Nat.le_of_ble_eq_true rfl) (Nat.le_of_ble_eq_true rfl) (Nat.le_of_ble_eq_true rfl) rfl (fun z_25 M_26 h_27 p_28 => ?_)
        obtain ⟨rfl, h_30, h_31, h_32⟩ := p_28
        refine g_bipush (n := 17) hx (dq tX10_sum 7 rfl) rfl (by decide) ?_
        refine g_icmp_eq (n := 20) (t := 29) hx (dq tX10_sum 8 rfl) (by decide) rfl h_27 ⟨by decide, by decide⟩ (fun c_33 => ?_) (fun c_33 => ?_)
        · refine g_aload_n (n := 30) hx 0 (dq tX10_sum 13 rfl) rfl rfl ?_
          refine g_callVi (n := 33) (As := []) (rest := []) hx (ctX10_sign Γ M_12 ) mlX10_252 (obX10 (by decide)) (dq tX10_sum 14 rfl) rfl (Nat.le_of_ble_eq_true rfl) (Nat.le_of_ble_eq_true rfl) (Nat.le_of_ble_eq_true rfl) rfl (fun z_34 M_35 h_36 p_37 => ?_)
          obtain ⟨rfl, h_39, h_40, h_41⟩ := p_37
          refine g_bipush (n := 35) hx (dq tX10_sum 15 rfl) rfl (by decide) ?_
          refine g_icmp_ne (n := 38) (t := 42) hx (dq tX10_sum 16 rfl) (by decide) rfl h_36 ⟨by decide, by decide⟩ (fun c_42 => ?_) (fun c_42 => ?_)
          · refine g_iconst (n := 43) hx (dq tX10_sum 19 rfl) rfl ?_
            refine g_istore_n (n := 44) (lv' := [(1, vI 3), (0, aR Γ 229)]) hx (dq tX10_sum 20 rfl) (by decide) rfl rfl ?_
            refine g_aload_n (n := 45) hx 1 (dq tX10_sum 21 rfl) rfl rfl ?_
            refine g_dup (n := 46) hx (dq tX10_sum 22 rfl) rfl rfl ?_
            refine g_getI (n := 49) hx glX10_249 (sX10_38 (by decide)) (dq tX10_sum 23 rfl) rfl (fun h_43l h_43u => ?_)
            refine g_iconst (n := 50) hx (dq tX10_sum 24 rfl) rfl ?_
            refine g_iadd (n := 51) hx (dq tX10_sum 25 rfl) rfl ?_
            refine g_putI (n := 54) hx plX10_249 (sX10_38 (by decide)) (dq tX10_sum 26 rfl) rfl (by omega) (by omega) (fun M_44 m_45e m_45 => ?_)
            have g_46 : Kp M M_44 := Kp.frame g_16 (fun c j hcj => m_45 c j (by omega))
            have g_47 : Rd M_44 ua (ud + 1) un us := Rd.mv g_17 (fun c j hcj => m_45 c j (by omega)) (by have q39 := m_45 229 39 (by omega); omega)
            refine g_aload_n (n := 55) hx 1 (dq tX10_sum 27 rfl) rfl rfl ?_
            have e_48 : M_44 229 37 = M_12 229 37 := (m_45 229 37 (by omega))
            have e_49 : M_44 229 39 = M_12 229 39 := (m_45 229 39 (by omega))
            refine g_callVv (n := 58) (As := []) (rest := []) hx (ctX10_term Γ M_44 ua (ud + 1) un us (by omega) (by omega) g_47) mlX10_309 (obX10 (by decide)) (dq tX10_sum 28 rfl) rfl (Nat.le_of_ble_eq_true rfl) (Nat.le_of_ble_eq_true rfl) (Nat.le_of_ble_eq_true rfl) rfl (fun M_51 p_53 => ?_)
            obtain ⟨f_54, h_55, h_56, h_57, h_58⟩ := p_53
            have g_59 := Kp.trans g_46 h_56
            have g_60 : Rd M_51 ua (ud + 2) un us := Rd.to h_55 (by omega) (by omega) (by omega)
            refine g_aload_n (n := 59) hx 1 (dq tX10_sum 29 rfl) rfl rfl ?_
            refine g_iload_n (n := 60) hx 0 (dq tX10_sum 30 rfl) rfl rfl ?_
            refine g_iconst (n := 61) hx (dq tX10_sum 31 rfl) rfl ?_
            have e_61 : M_51 229 37 = M_44 229 37 := (f_54 229 37 (by omega))
            refine g_callVv (n := 64) (As := [vI 3, vI 0]) (rest := []) hx (ctX10_entry2 Γ M_51 3 (by decide) (by decide) 0 (by decide) (by decide) ua (ud + 2) un us (by omega) (by omega) (by omega) g_60) mlX10_299 (obX10 (by decide)) (dq tX10_sum 32 rfl) rfl (Nat.le_of_ble_eq_true rfl) (Nat.le_of_ble_eq_true rfl) (Nat.le_of_ble_eq_true rfl) rfl (fun M_63 p_65 => ?_)
            obtain ⟨f_66, h_67, h_68⟩ := p_65
            have g_69 := Kp.trans g_59 h_68
            have g_70 : Rd M_63 ua (ud + 1) un us := Rd.to h_67 (by omega) (by omega) (by omega)
            refine g_goto (n := 4) hx (dq tX10_sum 33 rfl) (by decide) ?_
            have e_71 : M_63 229 37 = M_51 229 37 := (f_66 229 37 (by omega))
            have e_72 : M_63 229 38 = M_51 229 38 := (f_66 229 38 (by omega))
            have e_73 : M_63 229 39 = M_51 229 39 := (f_66 229 39 (by omega))
            refine g_lv [1] rfl ?_
            exact ih_14 _ (by omega) M_63 (fun u_ v_ huv_ => ((((f_66 u_ v_ ⟨huv_.1, huv_.2.1, huv_.2.2.1⟩).trans (f_54 u_ v_ ⟨huv_.2.2.2.1, huv_.2.2.2.2.1, huv_.2.2.1, huv_.2.2.2.2.2, huv_.1, huv_.2.1⟩)).trans (m_45 u_ v_ huv_.2.2.2.1)).trans (f_15 u_ v_ ⟨huv_.1, huv_.2.1, huv_.2.2.1, huv_.2.2.2.1, huv_.2.2.2.2.1, huv_.2.2.2.2.2⟩))) g_69 g_70 (by first | assumption | omega) (by first | assumption | omega) rfl
          · refine g_iconst (n := 39) hx (dq tX10_sum 17 rfl) rfl ?_
            refine g_goto (n := 43) hx (dq tX10_sum 18 rfl) (by decide) ?_
            refine g_istore_n (n := 44) (lv' := [(1, vI 2), (0, aR Γ 229)]) hx (dq tX10_sum 20 rfl) (by decide) rfl rfl ?_
            refine g_aload_n (n := 45) hx 1 (dq tX10_sum 21 rfl) rfl rfl ?_
            refine g_dup (n := 46) hx (dq tX10_sum 22 rfl) rfl rfl ?_
            refine g_getI (n := 49) hx glX10_249 (sX10_38 (by decide)) (dq tX10_sum 23 rfl) rfl (fun h_74l h_74u => ?_)
            refine g_iconst (n := 50) hx (dq tX10_sum 24 rfl) rfl ?_
            refine g_iadd (n := 51) hx (dq tX10_sum 25 rfl) rfl ?_
            refine g_putI (n := 54) hx plX10_249 (sX10_38 (by decide)) (dq tX10_sum 26 rfl) rfl (by omega) (by omega) (fun M_75 m_76e m_76 => ?_)
            have g_77 : Kp M M_75 := Kp.frame g_16 (fun c j hcj => m_76 c j (by omega))
            have g_78 : Rd M_75 ua (ud + 1) un us := Rd.mv g_17 (fun c j hcj => m_76 c j (by omega)) (by have q39 := m_76 229 39 (by omega); omega)
            refine g_aload_n (n := 55) hx 1 (dq tX10_sum 27 rfl) rfl rfl ?_
            have e_79 : M_75 229 37 = M_12 229 37 := (m_76 229 37 (by omega))
            have e_80 : M_75 229 39 = M_12 229 39 := (m_76 229 39 (by omega))
            refine g_callVv (n := 58) (As := []) (rest := []) hx (ctX10_term Γ M_75 ua (ud + 1) un us (by omega) (by omega) g_78) mlX10_309 (obX10 (by decide)) (dq tX10_sum 28 rfl) rfl (Nat.le_of_ble_eq_true rfl) (Nat.le_of_ble_eq_true rfl) (Nat.le_of_ble_eq_true rfl) rfl (fun M_82 p_84 => ?_)
            obtain ⟨f_85, h_86, h_87, h_88, h_89⟩ := p_84
            have g_90 := Kp.trans g_77 h_87
            have g_91 : Rd M_82 ua (ud + 2) un us := Rd.to h_86 (by omega) (by omega) (by omega)
            refine g_aload_n (n := 59) hx 1 (dq tX10_sum 29 rfl) rfl rfl ?_
            refine g_iload_n (n := 60) hx 0 (dq tX10_sum 30 rfl) rfl rfl ?_
            refine g_iconst (n := 61) hx (dq tX10_sum 31 rfl) rfl ?_
            have e_92 : M_82 229 37 = M_75 229 37 := (f_85 229 37 (by omega))
            refine g_callVv (n := 64) (As := [vI 2, vI 0]) (rest := []) hx (ctX10_entry2 Γ M_82 2 (by decide) (by decide) 0 (by decide) (by decide) ua (ud + 2) un us (by omega) (by omega) (by omega) g_91) mlX10_299 (obX10 (by decide)) (dq tX10_sum 32 rfl) rfl (Nat.le_of_ble_eq_true rfl) (Nat.le_of_ble_eq_true rfl) (Nat.le_of_ble_eq_true rfl) rfl (fun M_94 p_96 => ?_)
            obtain ⟨f_97, h_98, h_99⟩ := p_96
            have g_100 := Kp.trans g_90 h_99
            have g_101 : Rd M_94 ua (ud + 1) un us := Rd.to h_98 (by omega) (by omega) (by omega)
            refine g_goto (n := 4) hx (dq tX10_sum 33 rfl) (by decide) ?_
            have e_102 : M_94 229 37 = M_82 229 37 := (f_97 229 37 (by omega))
            have e_103 : M_94 229 38 = M_82 229 38 := (f_97 229 38 (by omega))
            have e_104 : M_94 229 39 = M_82 229 39 := (f_97 229 39 (by omega))
            refine g_lv [1] rfl ?_
            exact ih_14 _ (by omega) M_94 (fun u_ v_ huv_ => ((((f_97 u_ v_ ⟨huv_.1, huv_.2.1, huv_.2.2.1⟩).trans (f_85 u_ v_ ⟨huv_.2.2.2.1, huv_.2.2.2.2.1, huv_.2.2.1, huv_.2.2.2.2.2, huv_.1, huv_.2.1⟩)).trans (m_76 u_ v_ huv_.2.2.2.1)).trans (f_15 u_ v_ ⟨huv_.1, huv_.2.1, huv_.2.2.1, huv_.2.2.2.1, huv_.2.2.2.2.1, huv_.2.2.2.2.2⟩))) g_100 g_101 (by first | assumption | omega) (by first | assumption | omega) rfl
        · refine g_aload_n (n := 21) hx 0 (dq tX10_sum 9 rfl) rfl rfl ?_
          refine g_callVi (n := 24) (As := []) (rest := []) hx (ctX10_sign Γ M_12 ) mlX10_252 (obX10 (by decide)) (dq tX10_sum 10 rfl) rfl (Nat.le_of_ble_eq_true rfl) (Nat.le_of_ble_eq_true rfl) (Nat.le_of_ble_eq_true rfl) rfl (fun z_105 M_106 h_107 p_108 => ?_)
          obtain ⟨rfl, h_110, h_111, h_112⟩ := p_108
          refine g_bipush (n := 26) hx (dq tX10_sum 11 rfl) rfl (by decide) ?_
          refine g_icmp_ne (n := 29) (t := 67) hx (dq tX10_sum 12 rfl) (by decide) rfl h_107 ⟨by decide, by decide⟩ (fun c_113 => ?_) (fun c_113 => ?_)
          · exact g_vret hx hr (dq tX10_sum 34 rfl) ⟨(fun u_ v_ huv_ => ((f_15 u_ v_ ⟨huv_.2.2.2.2.1, huv_.2.2.2.2.2, huv_.2.2.1, huv_.1, huv_.2.1, huv_.2.2.2.1⟩).trans (f_5 u_ v_ ⟨huv_.1, huv_.2.1, huv_.2.2.1, huv_.2.2.2.1, huv_.2.2.2.2.1, huv_.2.2.2.2.2⟩))), (Rd.to g_17 (by omega) (by omega) (by omega)), g_16, (by omega), (by omega)⟩
          · refine g_aload_n (n := 30) hx 0 (dq tX10_sum 13 rfl) rfl rfl ?_
            refine g_callVi (n := 33) (As := []) (rest := []) hx (ctX10_sign Γ M_12 ) mlX10_252 (obX10 (by decide)) (dq tX10_sum 14 rfl) rfl (Nat.le_of_ble_eq_true rfl) (Nat.le_of_ble_eq_true rfl) (Nat.le_of_ble_eq_true rfl) rfl (fun z_114 M_115 h_116 p_117 => ?_)
            obtain ⟨rfl, h_119, h_120, h_121⟩ := p_117
            refine g_bipush (n := 35) hx (dq tX10_sum 15 rfl) rfl (by decide) ?_
            refine g_icmp_ne (n := 38) (t := 42) hx (dq tX10_sum 16 rfl) (by decide) rfl h_116 ⟨by decide, by decide⟩ (fun c_122 => ?_) (fun c_122 => ?_)
            · refine g_iconst (n := 43) hx (dq tX10_sum 19 rfl) rfl ?_
              refine g_istore_n (n := 44) (lv' := [(1, vI 3), (0, aR Γ 229)]) hx (dq tX10_sum 20 rfl) (by decide) rfl rfl ?_
              refine g_aload_n (n := 45) hx 1 (dq tX10_sum 21 rfl) rfl rfl ?_
              refine g_dup (n := 46) hx (dq tX10_sum 22 rfl) rfl rfl ?_
              refine g_getI (n := 49) hx glX10_249 (sX10_38 (by decide)) (dq tX10_sum 23 rfl) rfl (fun h_123l h_123u => ?_)
              refine g_iconst (n := 50) hx (dq tX10_sum 24 rfl) rfl ?_
              refine g_iadd (n := 51) hx (dq tX10_sum 25 rfl) rfl ?_
              refine g_putI (n := 54) hx plX10_249 (sX10_38 (by decide)) (dq tX10_sum 26 rfl) rfl (by omega) (by omega) (fun M_124 m_125e m_125 => ?_)
              have g_126 : Kp M M_124 := Kp.frame g_16 (fun c j hcj => m_125 c j (by omega))
              have g_127 : Rd M_124 ua (ud + 1) un us := Rd.mv g_17 (fun c j hcj => m_125 c j (by omega)) (by have q39 := m_125 229 39 (by omega); omega)
              refine g_aload_n (n := 55) hx 1 (dq tX10_sum 27 rfl) rfl rfl ?_
              have e_128 : M_124 229 37 = M_12 229 37 := (m_125 229 37 (by omega))
              have e_129 : M_124 229 39 = M_12 229 39 := (m_125 229 39 (by omega))
              refine g_callVv (n := 58) (As := []) (rest := []) hx (ctX10_term Γ M_124 ua (ud + 1) un us (by omega) (by omega) g_127) mlX10_309 (obX10 (by decide)) (dq tX10_sum 28 rfl) rfl (Nat.le_of_ble_eq_true rfl) (Nat.le_of_ble_eq_true rfl) (Nat.le_of_ble_eq_true rfl) rfl (fun M_131 p_133 => ?_)
              obtain ⟨f_134, h_135, h_136, h_137, h_138⟩ := p_133
              have g_139 := Kp.trans g_126 h_136
              have g_140 : Rd M_131 ua (ud + 2) un us := Rd.to h_135 (by omega) (by omega) (by omega)
              refine g_aload_n (n := 59) hx 1 (dq tX10_sum 29 rfl) rfl rfl ?_
              refine g_iload_n (n := 60) hx 0 (dq tX10_sum 30 rfl) rfl rfl ?_
              refine g_iconst (n := 61) hx (dq tX10_sum 31 rfl) rfl ?_
              have e_141 : M_131 229 37 = M_124 229 37 := (f_134 229 37 (by omega))
              refine g_callVv (n := 64) (As := [vI 3, vI 0]) (rest := []) hx (ctX10_entry2 Γ M_131 3 (by decide) (by decide) 0 (by decide) (by decide) ua (ud + 2) un us (by omega) (by omega) (by omega) g_140) mlX10_299 (obX10 (by decide)) (dq tX10_sum 32 rfl) rfl (Nat.le_of_ble_eq_true rfl) (Nat.le_of_ble_eq_true rfl) (Nat.le_of_ble_eq_true rfl) rfl (fun M_143 p_145 => ?_)
              obtain ⟨f_146, h_147, h_148⟩ := p_145
              have g_149 := Kp.trans g_139 h_148
              have g_150 : Rd M_143 ua (ud + 1) un us := Rd.to h_147 (by omega) (by omega) (by omega)
              refine g_goto (n := 4) hx (dq tX10_sum 33 rfl) (by decide) ?_
              have e_151 : M_143 229 37 = M_131 229 37 := (f_146 229 37 (by omega))
              have e_152 : M_143 229 38 = M_131 229 38 := (f_146 229 38 (by omega))
              have e_153 : M_143 229 39 = M_131 229 39 := (f_146 229 39 (by omega))
              refine g_lv [1] rfl ?_
              exact ih_14 _ (by omega) M_143 (fun u_ v_ huv_ => ((((f_146 u_ v_ ⟨huv_.1, huv_.2.1, huv_.2.2.1⟩).trans (f_134 u_ v_ ⟨huv_.2.2.2.1, huv_.2.2.2.2.1, huv_.2.2.1, huv_.2.2.2.2.2, huv_.1, huv_.2.1⟩)).trans (m_125 u_ v_ huv_.2.2.2.1)).trans (f_15 u_ v_ ⟨huv_.1, huv_.2.1, huv_.2.2.1, huv_.2.2.2.1, huv_.2.2.2.2.1, huv_.2.2.2.2.2⟩))) g_149 g_150 (by first | assumption | omega) (by first | assumption | omega) rfl
            · refine g_iconst (n := 39) hx (dq tX10_sum 17 rfl) rfl ?_
              refine g_goto (n := 43) hx (dq tX10_sum 18 rfl) (by decide) ?_
              refine g_istore_n (n := 44) (lv' := [(1, vI 2), (0, aR Γ 229)]) hx (dq tX10_sum 20 rfl) (by decide) rfl rfl ?_
              refine g_aload_n (n := 45) hx 1 (dq tX10_sum 21 rfl) rfl rfl ?_
              refine g_dup (n := 46) hx (dq tX10_sum 22 rfl) rfl rfl ?_
              refine g_getI (n := 49) hx glX10_249 (sX10_38 (by decide)) (dq tX10_sum 23 rfl) rfl (fun h_154l h_154u => ?_)
              refine g_iconst (n := 50) hx (dq tX10_sum 24 rfl) rfl ?_
              refine g_iadd (n := 51) hx (dq tX10_sum 25 rfl) rfl ?_
              refine g_putI (n := 54) hx plX10_249 (sX10_38 (by decide)) (dq tX10_sum 26 rfl) rfl (by omega) (by omega) (fun M_155 m_156e m_156 => ?_)
              have g_157 : Kp M M_155 := Kp.frame g_16 (fun c j hcj => m_156 c j (by omega))
              have g_158 : Rd M_155 ua (ud + 1) un us := Rd.mv g_17 (fun c j hcj => m_156 c j (by omega)) (by have q39 := m_156 229 39 (by omega); omega)
              refine g_aload_n (n := 55) hx 1 (dq tX10_sum 27 rfl) rfl rfl ?_
              have e_159 : M_155 229 37 = M_12 229 37 := (m_156 229 37 (by omega))
              have e_160 : M_155 229 39 = M_12 229 39 := (m_156 229 39 (by omega))
              refine g_callVv (n := 58) (As := []) (rest := []) hx (ctX10_term Γ M_155 ua (ud + 1) un us (by omega) (by omega) g_158) mlX10_309 (obX10 (by decide)) (dq tX10_sum 28 rfl) rfl (Nat.le_of_ble_eq_true rfl) (Nat.le_of_ble_eq_true rfl) (Nat.le_of_ble_eq_true rfl) rfl (fun M_162 p_164 => ?_)
              obtain ⟨f_165, h_166, h_167, h_168, h_169⟩ := p_164
              have g_170 := Kp.trans g_157 h_167
              have g_171 : Rd M_162 ua (ud + 2) un us := Rd.to h_166 (by omega) (by omega) (by omega)
              refine g_aload_n (n := 59) hx 1 (dq tX10_sum 29 rfl) rfl rfl ?_
              refine g_iload_n (n := 60) hx 0 (dq tX10_sum 30 rfl) rfl rfl ?_
              refine g_iconst (n := 61) hx (dq tX10_sum 31 rfl) rfl ?_
              have e_172 : M_162 229 37 = M_155 229 37 := (f_165 229 37 (by omega))
              refine g_callVv (n := 64) (As := [vI 2, vI 0]) (rest := []) hx (ctX10_entry2 Γ M_162 2 (by decide) (by decide) 0 (by decide) (by decide) ua (ud + 2) un us (by omega) (by omega) (by omega) g_171) mlX10_299 (obX10 (by decide)) (dq tX10_sum 32 rfl) rfl (Nat.le_of_ble_eq_true rfl) (Nat.le_of_ble_eq_true rfl) (Nat.le_of_ble_eq_true rfl) rfl (fun M_174 p_176 => ?_)
              obtain ⟨f_177, h_178, h_179⟩ := p_176
              have g_180 := Kp.trans g_170 h_179
              have g_181 : Rd M_174 ua (ud + 1) un us := Rd.to h_178 (by omega) (by omega) (by omega)
              refine g_goto (n := 4) hx (dq tX10_sum 33 rfl) (by decide) ?_
              have e_182 : M_174 229 37 = M_162 229 37 := (f_177 229 37 (by omega))
              have e_183 : M_174 229 38 = M_162 229 38 := (f_177 229 38 (by omega))
              have e_184 : M_174 229 39 = M_162 229 39 := (f_177 229 39 (by omega))
              refine g_lv [1] rfl ?_
              exact ih_14 _ (by omega) M_174 (fun u_ v_ huv_ => ((((f_177 u_ v_ ⟨huv_.1, huv_.2.1, huv_.2.2.1⟩).trans (f_165 u_ v_ ⟨huv_.2.2.2.1, huv_.2.2.2.2.1, huv_.2.2.1, huv_.2.2.2.2.2, huv_.1, huv_.2.1⟩)).trans (m_156 u_ v_ huv_.2.2.2.1)).trans (f_15 u_ v_ ⟨huv_.1, huv_.2.1, huv_.2.2.1, huv_.2.2.2.1, huv_.2.2.2.2.1, huv_.2.2.2.2.2⟩))) g_180 g_181 (by first | assumption | omega) (by first | assumption | omega) rfl
  have e_185 : M_2 229 37 = M 229 37 := (f_5 229 37 (by omega))
  exact L_13 _ M_2 (fun _ _ _ => rfl) g_10 g_11 (by first | assumption | omega) (by first | assumption | omega) rfl

abbrev qctX10_compared (M : zM) (ua : Int) (ud : Int) (un : Int) (us : Int) (M' : zM) : Prop := (∀ u_ v_, (u_ ≠ 229 ∨ v_ ≠ 38) ∧ (u_ ≠ 229 ∨ v_ ≠ 39) ∧ (u_ ≠ 229 ∨ v_ ≠ 42) ∧ (u_ ≠ 229 ∨ v_ ≠ 44) ∧ u_ ≠ 229 + 38 ∧ u_ ≠ 229 + 39 → M' u_ v_ = M u_ v_) ∧ (Rd M' ua (ud + 1) un us) ∧ (Kp M M') ∧ (M 229 38 ≤ M' 229 38) ∧ (M' 229 38 = M 229 38 ∨ M' 229 38 ≤ M 229 37)
set_option maxHeartbeats 4000000 in
set_option maxRecDepth 100000 in
theorem ctX10_compared (Γ : Gam) (M : zM) (ua : Int) (ud : Int) (un : Int) (us : Int) (pre0 : 0 ≤ us) (pre1 : 0 ≤ ud) (ex0 : Rd M ua ud un us) : CtV Γ yX10_compared cX10_compared 3 none 8 173 [aR Γ 229] M (qctX10_compared M ua ud un us) := by
  refine met_v (by decide) (Nat.le_of_ble_eq_true rfl) (fun x hx hr => ?_)
  show G Γ x 3 (QV Γ x (qctX10_compared M ua ud un us)) M 0 [(0, aR Γ 229)] []
  refine g_iv (fun hI0 => ?_)
  have hI_37 : (0 : Int) ≤ M 229 37 ∧ M 229 37 ≤ 400 := hI0 229 37
  have hI_38 : (0 : Int) ≤ M 229 38 ∧ M 229 38 ≤ 402 := hI0 229 38
  have hI_45 : (0 : Int) ≤ M 229 45 ∧ M 229 45 ≤ 402 := hI0 229 45
  have hI_42 : (0 : Int) ≤ M 229 42 ∧ M 229 42 ≤ 300 := hI0 229 42
  have hI_39 : (0 : Int) ≤ M 229 39 ∧ M 229 39 ≤ 100000 := hI0 229 39
  have hI_40 : (0 : Int) ≤ M 229 40 ∧ M 229 40 ≤ 5 := hI0 229 40
  have hI_41 : (0 : Int) ≤ M 229 41 ∧ M 229 41 ≤ 6 := hI0 229 41
  clear hI0
  refine g_aload_n (n := 1) hx 0 (dq tX10_compared 0 rfl) rfl rfl ?_
  refine g_callVv (n := 4) (As := []) (rest := []) hx (ctX10_sum Γ M ua ud un us (by omega) (by omega) ex0) mlX10_312 (obX10 (by decide)) (dq tX10_compared 1 rfl) rfl (Nat.le_of_ble_eq_true rfl) (Nat.le_of_ble_eq_true rfl) (Nat.le_of_ble_eq_true rfl) rfl (fun M_2 p_4 => ?_)
  obtain ⟨f_5, h_6, h_7, h_8, h_9⟩ := p_4
  have g_10 := Kp.trans Kp.refl h_7
  have g_11 : Rd M_2 ua (ud + 1) un us := Rd.to h_6 (by omega) (by omega) (by omega)
  refine g_aload_n (n := 5) hx 0 (dq tX10_compared 2 rfl) rfl rfl ?_
  have e_12 : M_2 229 37 = M 229 37 := (f_5 229 37 (by omega))
  refine g_callVi (n := 8) (As := []) (rest := []) hx (ctX10_sign Γ M_2 ) mlX10_252 (obX10 (by decide)) (dq tX10_compared 3 rfl) rfl (Nat.le_of_ble_eq_true rfl) (Nat.le_of_ble_eq_true rfl) (Nat.le_of_ble_eq_true rfl) rfl (fun z_13 M_14 h_15 p_16 => ?_)
  obtain ⟨rfl, h_18, h_19, h_20⟩ := p_16
  refine g_istore_n (n := 9) (lv' := [(1, vI z_13), (0, aR Γ 229)]) hx (dq tX10_compared 4 rfl) (by decide) rfl rfl ?_
  refine g_iload_n (n := 10) hx 0 (dq tX10_compared 5 rfl) rfl rfl ?_
  refine g_bipush (n := 12) hx (dq tX10_compared 6 rfl) rfl (by decide) ?_
  refine g_icmp_eq (n := 15) (t := 37) hx (dq tX10_compared 7 rfl) (by decide) rfl h_15 ⟨by decide, by decide⟩ (fun c_21 => ?_) (fun c_21 => ?_)
  · refine g_aload_n (n := 38) hx 1 (dq tX10_compared 20 rfl) rfl rfl ?_
    refine g_aload_n (n := 39) hx 1 (dq tX10_compared 21 rfl) rfl rfl ?_
    refine g_getI (n := 42) hx glX10_249 (sX10_38 (by decide)) (dq tX10_compared 22 rfl) rfl (fun h_22l h_22u => ?_)
    refine g_callVv (n := 45) (As := [vI (M_2 229 38)]) (rest := []) hx (ctX10_isCounted Γ M_2 (M_2 229 38) (by omega) (by omega) ua (ud + 1) un us g_11) mlX10_296 (obX10 (by decide)) (dq tX10_compared 23 rfl) rfl (Nat.le_of_ble_eq_true rfl) (Nat.le_of_ble_eq_true rfl) (Nat.le_of_ble_eq_true rfl) rfl (fun M_24 p_26 => ?_)
    obtain ⟨f_27, h_28, h_29⟩ := p_26
    have g_30 : Kp M M_24 := Kp.frame g_10 (fun c j hcj => f_27 c j (by omega))
    have g_31 : Rd M_24 ua (ud + 1) un (us + 6) := Rd.to h_28 (by omega) (by omega) (by omega)
    refine g_aload_n (n := 46) hx 1 (dq tX10_compared 24 rfl) rfl rfl ?_
    refine g_dup (n := 47) hx (dq tX10_compared 25 rfl) rfl rfl ?_
    refine g_getI (n := 50) hx glX10_249 (sX10_38 (by decide)) (dq tX10_compared 26 rfl) rfl (fun h_32l h_32u => ?_)
    have e_33 : M_24 229 38 = M_2 229 38 := (f_27 229 38 (by omega))
    refine g_iconst (n := 51) hx (dq tX10_compared 27 rfl) rfl ?_
    refine g_iadd (n := 52) hx (dq tX10_compared 28 rfl) rfl ?_
    have e_34 : M_24 229 37 = M_2 229 37 := (f_27 229 37 (by omega))
    refine g_putI (n := 55) hx plX10_249 (sX10_38 (by decide)) (dq tX10_compared 29 rfl) rfl (by omega) (by omega) (fun M_35 m_36e m_36 => ?_)
    have g_37 : Kp M M_35 := Kp.frame g_30 (fun c j hcj => m_36 c j (by omega))
    have g_38 : Rd M_35 ua (ud + 1) un (us + 6) := Rd.mv g_31 (fun c j hcj => m_36 c j (by omega)) (by have q39 := m_36 229 39 (by omega); omega)
    refine g_iload_n (n := 56) hx 0 (dq tX10_compared 30 rfl) rfl rfl ?_
    refine g_bipush (n := 58) hx (dq tX10_compared 31 rfl) rfl (by decide) ?_
    refine g_icmp_eq (n := 61) (t := 74) hx (dq tX10_compared 32 rfl) (by decide) rfl h_15 ⟨by decide, by decide⟩ (fun c_39 => ?_) (fun c_39 => ?_)
    · omega
    · refine g_aload_n (n := 62) hx 1 (dq tX10_compared 33 rfl) rfl rfl ?_
      have e_40 : M_35 229 37 = M_24 229 37 := (m_36 229 37 (by omega))
      have e_41 : M_35 229 39 = M_24 229 39 := (m_36 229 39 (by omega))
      refine g_callVi (n := 65) (As := []) (rest := []) hx (ctX10_sign Γ M_35 ) mlX10_252 (obX10 (by decide)) (dq tX10_compared 34 rfl) rfl (Nat.le_of_ble_eq_true rfl) (Nat.le_of_ble_eq_true rfl) (Nat.le_of_ble_eq_true rfl) rfl (fun z_42 M_43 h_44 p_45 => ?_)
      obtain ⟨rfl, h_47, h_48, h_49⟩ := p_45
      refine g_bipush (n := 67) hx (dq tX10_compared 35 rfl) rfl (by decide) ?_
      refine g_icmp_ne (n := 70) (t := 74) hx (dq tX10_compared 36 rfl) (by decide) rfl h_44 ⟨by decide, by decide⟩ (fun c_50 => ?_) (fun c_50 => ?_)
      · refine g_iconst (n := 75) hx (dq tX10_compared 39 rfl) rfl ?_
        refine g_istore_n (n := 76) (lv' := [(2, vI 0), (1, vI z_13), (0, aR Γ 229)]) hx (dq tX10_compared 40 rfl) (by decide) rfl rfl ?_
        refine g_aload_n (n := 77) hx 2 (dq tX10_compared 41 rfl) rfl rfl ?_
        refine g_dup (n := 78) hx (dq tX10_compared 42 rfl) rfl rfl ?_
        refine g_getI (n := 81) hx glX10_249 (sX10_38 (by decide)) (dq tX10_compared 43 rfl) rfl (fun h_51l h_51u => ?_)
        refine g_iload_n (n := 82) hx 0 (dq tX10_compared 44 rfl) rfl rfl ?_
        refine g_if_eq (n := 85) (t := 89) hx (dq tX10_compared 45 rfl) (by decide) rfl ⟨by decide, by decide⟩ (fun c_52 => ?_) (fun c_52 => ?_)
        · refine g_iconst (n := 90) hx (dq tX10_compared 48 rfl) rfl ?_
          refine g_iadd (n := 91) hx (dq tX10_compared 49 rfl) rfl ?_
          refine g_putI (n := 94) hx plX10_249 (sX10_38 (by decide)) (dq tX10_compared 50 rfl) rfl (by omega) (by omega) (fun M_53 m_54e m_54 => ?_)
          have g_55 : Kp M M_53 := Kp.frame g_37 (fun c j hcj => m_54 c j (by omega))
          have g_56 : Rd M_53 ua (ud + 1) un (us + 6) := Rd.mv g_38 (fun c j hcj => m_54 c j (by omega)) (by have q39 := m_54 229 39 (by omega); omega)
          refine g_aload_n (n := 95) hx 2 (dq tX10_compared 51 rfl) rfl rfl ?_
          have e_57 : M_53 229 37 = M_35 229 37 := (m_54 229 37 (by omega))
          have e_58 : M_53 229 39 = M_35 229 39 := (m_54 229 39 (by omega))
          refine g_callVv (n := 98) (As := []) (rest := []) hx (ctX10_sum Γ M_53 ua (ud + 1) un (us + 6) (by omega) (by omega) g_56) mlX10_312 (obX10 (by decide)) (dq tX10_compared 52 rfl) rfl (Nat.le_of_ble_eq_true rfl) (Nat.le_of_ble_eq_true rfl) (Nat.le_of_ble_eq_true rfl) rfl (fun M_60 p_62 => ?_)
          obtain ⟨f_63, h_64, h_65, h_66, h_67⟩ := p_62
          have g_68 := Kp.trans g_55 h_65
          have g_69 : Rd M_60 ua (ud + 2) un (us + 6) := Rd.to h_64 (by omega) (by omega) (by omega)
          refine g_aload_n (n := 99) hx 2 (dq tX10_compared 53 rfl) rfl rfl ?_
          refine g_iload_n (n := 100) hx 1 (dq tX10_compared 54 rfl) rfl rfl ?_
          refine g_bipush (n := 102) hx (dq tX10_compared 55 rfl) rfl (by decide) ?_
          refine g_icmp_ne (n := 105) (t := 110) hx (dq tX10_compared 56 rfl) (by decide) rfl h_15 ⟨by decide, by decide⟩ (fun c_70 => ?_) (fun c_70 => ?_)
          · refine g_iload_n (n := 111) hx 1 (dq tX10_compared 59 rfl) rfl rfl ?_
            refine g_bipush (n := 113) hx (dq tX10_compared 60 rfl) rfl (by decide) ?_
            refine g_icmp_ne (n := 116) (t := 128) hx (dq tX10_compared 61 rfl) (by decide) rfl h_15 ⟨by decide, by decide⟩ (fun c_71 => ?_) (fun c_71 => ?_)
            · omega
            · refine g_iload_n (n := 117) hx 0 (dq tX10_compared 62 rfl) rfl rfl ?_
              refine g_if_eq (n := 120) (t := 124) hx (dq tX10_compared 63 rfl) (by decide) rfl ⟨by decide, by decide⟩ (fun c_72 => ?_) (fun c_72 => ?_)
              · refine g_iconst (n := 125) hx (dq tX10_compared 66 rfl) rfl ?_
                refine g_goto (n := 139) hx (dq tX10_compared 67 rfl) (by decide) ?_
                refine g_iconst (n := 140) hx (dq tX10_compared 73 rfl) rfl ?_
                have e_73 : M_60 229 37 = M_53 229 37 := (f_63 229 37 (by omega))
                refine g_callVv (n := 143) (As := [vI 4, vI 0]) (rest := []) hx (ctX10_entry2 Γ M_60 4 (by decide) (by decide) 0 (by decide) (by decide) ua (ud + 2) un (us + 6) (by omega) (by omega) (by omega) g_69) mlX10_299 (obX10 (by decide)) (dq tX10_compared 74 rfl) rfl (Nat.le_of_ble_eq_true rfl) (Nat.le_of_ble_eq_true rfl) (Nat.le_of_ble_eq_true rfl) rfl (fun M_75 p_77 => ?_)
                obtain ⟨f_78, h_79, h_80⟩ := p_77
                have g_81 := Kp.trans g_68 h_80
                have g_82 : Rd M_75 ua (ud + 1) un (us + 6) := Rd.to h_79 (by omega) (by omega) (by omega)
                have e_83 : M_75 229 37 = M_60 229 37 := (f_78 229 37 (by omega))
                have e_84 : M_75 229 38 = M_60 229 38 := (f_78 229 38 (by omega))
                have e_85 : M_75 229 39 = M_60 229 39 := (f_78 229 39 (by omega))
                exact g_vret hx hr (dq tX10_compared 75 rfl) ⟨(fun u_ v_ huv_ => ((((((f_78 u_ v_ ⟨huv_.2.2.2.2.1, huv_.2.2.2.2.2, huv_.2.2.1⟩).trans (f_63 u_ v_ ⟨huv_.1, huv_.2.1, huv_.2.2.1, huv_.2.2.2.1, huv_.2.2.2.2.1, huv_.2.2.2.2.2⟩)).trans (m_54 u_ v_ huv_.1)).trans (m_36 u_ v_ huv_.1)).trans (f_27 u_ v_ ⟨huv_.2.1, huv_.2.2.2.1⟩)).trans (f_5 u_ v_ ⟨huv_.1, huv_.2.1, huv_.2.2.1, huv_.2.2.2.1, huv_.2.2.2.2.1, huv_.2.2.2.2.2⟩))), (Rd.to g_82 (by omega) (by omega) (by omega)), g_81, (by omega), (by omega)⟩
              · omega
          · omega
        · omega
      · refine g_iconst (n := 71) hx (dq tX10_compared 37 rfl) rfl ?_
        refine g_goto (n := 75) hx (dq tX10_compared 38 rfl) (by decide) ?_
        refine g_istore_n (n := 76) (lv' := [(2, vI 1), (1, vI z_13), (0, aR Γ 229)]) hx (dq tX10_compared 40 rfl) (by decide) rfl rfl ?_
        refine g_aload_n (n := 77) hx 2 (dq tX10_compared 41 rfl) rfl rfl ?_
        refine g_dup (n := 78) hx (dq tX10_compared 42 rfl) rfl rfl ?_
        refine g_getI (n := 81) hx glX10_249 (sX10_38 (by decide)) (dq tX10_compared 43 rfl) rfl (fun h_86l h_86u => ?_)
        refine g_iload_n (n := 82) hx 0 (dq tX10_compared 44 rfl) rfl rfl ?_
        refine g_if_eq (n := 85) (t := 89) hx (dq tX10_compared 45 rfl) (by decide) rfl ⟨by decide, by decide⟩ (fun c_87 => ?_) (fun c_87 => ?_)
        · omega
        · refine g_iconst (n := 86) hx (dq tX10_compared 46 rfl) rfl ?_
          refine g_goto (n := 90) hx (dq tX10_compared 47 rfl) (by decide) ?_
          refine g_iadd (n := 91) hx (dq tX10_compared 49 rfl) rfl ?_
          refine g_putI (n := 94) hx plX10_249 (sX10_38 (by decide)) (dq tX10_compared 50 rfl) rfl (by omega) (by omega) (fun M_88 m_89e m_89 => ?_)
          have g_90 : Kp M M_88 := Kp.frame g_37 (fun c j hcj => m_89 c j (by omega))
          have g_91 : Rd M_88 ua (ud + 1) un (us + 6) := Rd.mv g_38 (fun c j hcj => m_89 c j (by omega)) (by have q39 := m_89 229 39 (by omega); omega)
          refine g_aload_n (n := 95) hx 2 (dq tX10_compared 51 rfl) rfl rfl ?_
          have e_92 : M_88 229 37 = M_35 229 37 := (m_89 229 37 (by omega))
          have e_93 : M_88 229 39 = M_35 229 39 := (m_89 229 39 (by omega))
          refine g_callVv (n := 98) (As := []) (rest := []) hx (ctX10_sum Γ M_88 ua (ud + 1) un (us + 6) (by omega) (by omega) g_91) mlX10_312 (obX10 (by decide)) (dq tX10_compared 52 rfl) rfl (Nat.le_of_ble_eq_true rfl) (Nat.le_of_ble_eq_true rfl) (Nat.le_of_ble_eq_true rfl) rfl (fun M_95 p_97 => ?_)
          obtain ⟨f_98, h_99, h_100, h_101, h_102⟩ := p_97
          have g_103 := Kp.trans g_90 h_100
          have g_104 : Rd M_95 ua (ud + 2) un (us + 6) := Rd.to h_99 (by omega) (by omega) (by omega)
          refine g_aload_n (n := 99) hx 2 (dq tX10_compared 53 rfl) rfl rfl ?_
          refine g_iload_n (n := 100) hx 1 (dq tX10_compared 54 rfl) rfl rfl ?_
          refine g_bipush (n := 102) hx (dq tX10_compared 55 rfl) rfl (by decide) ?_
          refine g_icmp_ne (n := 105) (t := 110) hx (dq tX10_compared 56 rfl) (by decide) rfl h_15 ⟨by decide, by decide⟩ (fun c_105 => ?_) (fun c_105 => ?_)
          · refine g_iload_n (n := 111) hx 1 (dq tX10_compared 59 rfl) rfl rfl ?_
            refine g_bipush (n := 113) hx (dq tX10_compared 60 rfl) rfl (by decide) ?_
            refine g_icmp_ne (n := 116) (t := 128) hx (dq tX10_compared 61 rfl) (by decide) rfl h_15 ⟨by decide, by decide⟩ (fun c_106 => ?_) (fun c_106 => ?_)
            · omega
            · refine g_iload_n (n := 117) hx 0 (dq tX10_compared 62 rfl) rfl rfl ?_
              refine g_if_eq (n := 120) (t := 124) hx (dq tX10_compared 63 rfl) (by decide) rfl ⟨by decide, by decide⟩ (fun c_107 => ?_) (fun c_107 => ?_)
              · omega
              · refine g_iconst (n := 121) hx (dq tX10_compared 64 rfl) rfl ?_
                refine g_goto (n := 139) hx (dq tX10_compared 65 rfl) (by decide) ?_
                refine g_iconst (n := 140) hx (dq tX10_compared 73 rfl) rfl ?_
                have e_108 : M_95 229 37 = M_88 229 37 := (f_98 229 37 (by omega))
                refine g_callVv (n := 143) (As := [vI 5, vI 0]) (rest := []) hx (ctX10_entry2 Γ M_95 5 (by decide) (by decide) 0 (by decide) (by decide) ua (ud + 2) un (us + 6) (by omega) (by omega) (by omega) g_104) mlX10_299 (obX10 (by decide)) (dq tX10_compared 74 rfl) rfl (Nat.le_of_ble_eq_true rfl) (Nat.le_of_ble_eq_true rfl) (Nat.le_of_ble_eq_true rfl) rfl (fun M_110 p_112 => ?_)
                obtain ⟨f_113, h_114, h_115⟩ := p_112
                have g_116 := Kp.trans g_103 h_115
                have g_117 : Rd M_110 ua (ud + 1) un (us + 6) := Rd.to h_114 (by omega) (by omega) (by omega)
                have e_118 : M_110 229 37 = M_95 229 37 := (f_113 229 37 (by omega))
                have e_119 : M_110 229 38 = M_95 229 38 := (f_113 229 38 (by omega))
                have e_120 : M_110 229 39 = M_95 229 39 := (f_113 229 39 (by omega))
                exact g_vret hx hr (dq tX10_compared 75 rfl) ⟨(fun u_ v_ huv_ => ((((((f_113 u_ v_ ⟨huv_.2.2.2.2.1, huv_.2.2.2.2.2, huv_.2.2.1⟩).trans (f_98 u_ v_ ⟨huv_.1, huv_.2.1, huv_.2.2.1, huv_.2.2.2.1, huv_.2.2.2.2.1, huv_.2.2.2.2.2⟩)).trans (m_89 u_ v_ huv_.1)).trans (m_36 u_ v_ huv_.1)).trans (f_27 u_ v_ ⟨huv_.2.1, huv_.2.2.2.1⟩)).trans (f_5 u_ v_ ⟨huv_.1, huv_.2.1, huv_.2.2.1, huv_.2.2.2.1, huv_.2.2.2.2.1, huv_.2.2.2.2.2⟩))), (Rd.to g_117 (by omega) (by omega) (by omega)), g_116, (by omega), (by omega)⟩
          · omega
  · refine g_iload_n (n := 16) hx 0 (dq tX10_compared 8 rfl) rfl rfl ?_
    refine g_bipush (n := 18) hx (dq tX10_compared 9 rfl) rfl (by decide) ?_
    refine g_icmp_eq (n := 21) (t := 37) hx (dq tX10_compared 10 rfl) (by decide) rfl h_15 ⟨by decide, by decide⟩ (fun c_121 => ?_) (fun c_121 => ?_)
    · refine g_aload_n (n := 38) hx 1 (dq tX10_compared 20 rfl) rfl rfl ?_
      refine g_aload_n (n := 39) hx 1 (dq tX10_compared 21 rfl) rfl rfl ?_
      refine g_getI (n := 42) hx glX10_249 (sX10_38 (by decide)) (dq tX10_compared 22 rfl) rfl (fun h_122l h_122u => ?_)
      refine g_callVv (n := 45) (As := [vI (M_2 229 38)]) (rest := []) hx (ctX10_isCounted Γ M_2 (M_2 229 38) (by omega) (by omega) ua (ud + 1) un us g_11) mlX10_296 (obX10 (by decide)) (dq tX10_compared 23 rfl) rfl (Nat.le_of_ble_eq_true rfl) (Nat.le_of_ble_eq_true rfl) (Nat.le_of_ble_eq_true rfl) rfl (fun M_124 p_126 => ?_)
      obtain ⟨f_127, h_128, h_129⟩ := p_126
      have g_130 : Kp M M_124 := Kp.frame g_10 (fun c j hcj => f_127 c j (by omega))
      have g_131 : Rd M_124 ua (ud + 1) un (us + 6) := Rd.to h_128 (by omega) (by omega) (by omega)
      refine g_aload_n (n := 46) hx 1 (dq tX10_compared 24 rfl) rfl rfl ?_
      refine g_dup (n := 47) hx (dq tX10_compared 25 rfl) rfl rfl ?_
      refine g_getI (n := 50) hx glX10_249 (sX10_38 (by decide)) (dq tX10_compared 26 rfl) rfl (fun h_132l h_132u => ?_)
      have e_133 : M_124 229 38 = M_2 229 38 := (f_127 229 38 (by omega))
      refine g_iconst (n := 51) hx (dq tX10_compared 27 rfl) rfl ?_
      refine g_iadd (n := 52) hx (dq tX10_compared 28 rfl) rfl ?_
      have e_134 : M_124 229 37 = M_2 229 37 := (f_127 229 37 (by omega))
      refine g_putI (n := 55) hx plX10_249 (sX10_38 (by decide)) (dq tX10_compared 29 rfl) rfl (by omega) (by omega) (fun M_135 m_136e m_136 => ?_)
      have g_137 : Kp M M_135 := Kp.frame g_130 (fun c j hcj => m_136 c j (by omega))
      have g_138 : Rd M_135 ua (ud + 1) un (us + 6) := Rd.mv g_131 (fun c j hcj => m_136 c j (by omega)) (by have q39 := m_136 229 39 (by omega); omega)
      refine g_iload_n (n := 56) hx 0 (dq tX10_compared 30 rfl) rfl rfl ?_
      refine g_bipush (n := 58) hx (dq tX10_compared 31 rfl) rfl (by decide) ?_
      refine g_icmp_eq (n := 61) (t := 74) hx (dq tX10_compared 32 rfl) (by decide) rfl h_15 ⟨by decide, by decide⟩ (fun c_139 => ?_) (fun c_139 => ?_)
      · refine g_iconst (n := 75) hx (dq tX10_compared 39 rfl) rfl ?_
        refine g_istore_n (n := 76) (lv' := [(2, vI 0), (1, vI z_13), (0, aR Γ 229)]) hx (dq tX10_compared 40 rfl) (by decide) rfl rfl ?_
        refine g_aload_n (n := 77) hx 2 (dq tX10_compared 41 rfl) rfl rfl ?_
        refine g_dup (n := 78) hx (dq tX10_compared 42 rfl) rfl rfl ?_
        refine g_getI (n := 81) hx glX10_249 (sX10_38 (by decide)) (dq tX10_compared 43 rfl) rfl (fun h_140l h_140u => ?_)
        refine g_iload_n (n := 82) hx 0 (dq tX10_compared 44 rfl) rfl rfl ?_
        refine g_if_eq (n := 85) (t := 89) hx (dq tX10_compared 45 rfl) (by decide) rfl ⟨by decide, by decide⟩ (fun c_141 => ?_) (fun c_141 => ?_)
        · refine g_iconst (n := 90) hx (dq tX10_compared 48 rfl) rfl ?_
          refine g_iadd (n := 91) hx (dq tX10_compared 49 rfl) rfl ?_
          have e_142 : M_135 229 37 = M_124 229 37 := (m_136 229 37 (by omega))
          have e_143 : M_135 229 39 = M_124 229 39 := (m_136 229 39 (by omega))
          refine g_putI (n := 94) hx plX10_249 (sX10_38 (by decide)) (dq tX10_compared 50 rfl) rfl (by omega) (by omega) (fun M_144 m_145e m_145 => ?_)
          have g_146 : Kp M M_144 := Kp.frame g_137 (fun c j hcj => m_145 c j (by omega))
          have g_147 : Rd M_144 ua (ud + 1) un (us + 6) := Rd.mv g_138 (fun c j hcj => m_145 c j (by omega)) (by have q39 := m_145 229 39 (by omega); omega)
          refine g_aload_n (n := 95) hx 2 (dq tX10_compared 51 rfl) rfl rfl ?_
          have e_148 : M_144 229 37 = M_135 229 37 := (m_145 229 37 (by omega))
          have e_149 : M_144 229 39 = M_135 229 39 := (m_145 229 39 (by omega))
          refine g_callVv (n := 98) (As := []) (rest := []) hx (ctX10_sum Γ M_144 ua (ud + 1) un (us + 6) (by omega) (by omega) g_147) mlX10_312 (obX10 (by decide)) (dq tX10_compared 52 rfl) rfl (Nat.le_of_ble_eq_true rfl) (Nat.le_of_ble_eq_true rfl) (Nat.le_of_ble_eq_true rfl) rfl (fun M_151 p_153 => ?_)
          obtain ⟨f_154, h_155, h_156, h_157, h_158⟩ := p_153
          have g_159 := Kp.trans g_146 h_156
          have g_160 : Rd M_151 ua (ud + 2) un (us + 6) := Rd.to h_155 (by omega) (by omega) (by omega)
          refine g_aload_n (n := 99) hx 2 (dq tX10_compared 53 rfl) rfl rfl ?_
          refine g_iload_n (n := 100) hx 1 (dq tX10_compared 54 rfl) rfl rfl ?_
          refine g_bipush (n := 102) hx (dq tX10_compared 55 rfl) rfl (by decide) ?_
          refine g_icmp_ne (n := 105) (t := 110) hx (dq tX10_compared 56 rfl) (by decide) rfl h_15 ⟨by decide, by decide⟩ (fun c_161 => ?_) (fun c_161 => ?_)
          · omega
          · refine g_bipush (n := 107) hx (dq tX10_compared 57 rfl) rfl (by decide) ?_
            refine g_goto (n := 139) hx (dq tX10_compared 58 rfl) (by decide) ?_
            refine g_iconst (n := 140) hx (dq tX10_compared 73 rfl) rfl ?_
            have e_162 : M_151 229 37 = M_144 229 37 := (f_154 229 37 (by omega))
            refine g_callVv (n := 143) (As := [vI 6, vI 0]) (rest := []) hx (ctX10_entry2 Γ M_151 6 (by decide) (by decide) 0 (by decide) (by decide) ua (ud + 2) un (us + 6) (by omega) (by omega) (by omega) g_160) mlX10_299 (obX10 (by decide)) (dq tX10_compared 74 rfl) rfl (Nat.le_of_ble_eq_true rfl) (Nat.le_of_ble_eq_true rfl) (Nat.le_of_ble_eq_true rfl) rfl (fun M_164 p_166 => ?_)
            obtain ⟨f_167, h_168, h_169⟩ := p_166
            have g_170 := Kp.trans g_159 h_169
            have g_171 : Rd M_164 ua (ud + 1) un (us + 6) := Rd.to h_168 (by omega) (by omega) (by omega)
            have e_172 : M_164 229 37 = M_151 229 37 := (f_167 229 37 (by omega))
            have e_173 : M_164 229 38 = M_151 229 38 := (f_167 229 38 (by omega))
            have e_174 : M_164 229 39 = M_151 229 39 := (f_167 229 39 (by omega))
            exact g_vret hx hr (dq tX10_compared 75 rfl) ⟨(fun u_ v_ huv_ => ((((((f_167 u_ v_ ⟨huv_.2.2.2.2.1, huv_.2.2.2.2.2, huv_.2.2.1⟩).trans (f_154 u_ v_ ⟨huv_.1, huv_.2.1, huv_.2.2.1, huv_.2.2.2.1, huv_.2.2.2.2.1, huv_.2.2.2.2.2⟩)).trans (m_145 u_ v_ huv_.1)).trans (m_136 u_ v_ huv_.1)).trans (f_127 u_ v_ ⟨huv_.2.1, huv_.2.2.2.1⟩)).trans (f_5 u_ v_ ⟨huv_.1, huv_.2.1, huv_.2.2.1, huv_.2.2.2.1, huv_.2.2.2.2.1, huv_.2.2.2.2.2⟩))), (Rd.to g_171 (by omega) (by omega) (by omega)), g_170, (by omega), (by omega)⟩
        · omega
      · omega
    · refine g_iload_n (n := 22) hx 0 (dq tX10_compared 11 rfl) rfl rfl ?_
      refine g_bipush (n := 24) hx (dq tX10_compared 12 rfl) rfl (by decide) ?_
      refine g_icmp_eq (n := 27) (t := 37) hx (dq tX10_compared 13 rfl) (by decide) rfl h_15 ⟨by decide, by decide⟩ (fun c_175 => ?_) (fun c_175 => ?_)
      · refine g_aload_n (n := 38) hx 1 (dq tX10_compared 20 rfl) rfl rfl ?_
        refine g_aload_n (n := 39) hx 1 (dq tX10_compared 21 rfl) rfl rfl ?_
        refine g_getI (n := 42) hx glX10_249 (sX10_38 (by decide)) (dq tX10_compared 22 rfl) rfl (fun h_176l h_176u => ?_)
        refine g_callVv (n := 45) (As := [vI (M_2 229 38)]) (rest := []) hx (ctX10_isCounted Γ M_2 (M_2 229 38) (by omega) (by omega) ua (ud + 1) un us g_11) mlX10_296 (obX10 (by decide)) (dq tX10_compared 23 rfl) rfl (Nat.le_of_ble_eq_true rfl) (Nat.le_of_ble_eq_true rfl) (Nat.le_of_ble_eq_true rfl) rfl (fun M_178 p_180 => ?_)
        obtain ⟨f_181, h_182, h_183⟩ := p_180
        have g_184 : Kp M M_178 := Kp.frame g_10 (fun c j hcj => f_181 c j (by omega))
        have g_185 : Rd M_178 ua (ud + 1) un (us + 6) := Rd.to h_182 (by omega) (by omega) (by omega)
        refine g_aload_n (n := 46) hx 1 (dq tX10_compared 24 rfl) rfl rfl ?_
        refine g_dup (n := 47) hx (dq tX10_compared 25 rfl) rfl rfl ?_
        refine g_getI (n := 50) hx glX10_249 (sX10_38 (by decide)) (dq tX10_compared 26 rfl) rfl (fun h_186l h_186u => ?_)
        have e_187 : M_178 229 38 = M_2 229 38 := (f_181 229 38 (by omega))
        refine g_iconst (n := 51) hx (dq tX10_compared 27 rfl) rfl ?_
        refine g_iadd (n := 52) hx (dq tX10_compared 28 rfl) rfl ?_
        have e_188 : M_178 229 37 = M_2 229 37 := (f_181 229 37 (by omega))
        refine g_putI (n := 55) hx plX10_249 (sX10_38 (by decide)) (dq tX10_compared 29 rfl) rfl (by omega) (by omega) (fun M_189 m_190e m_190 => ?_)
        have g_191 : Kp M M_189 := Kp.frame g_184 (fun c j hcj => m_190 c j (by omega))
        have g_192 : Rd M_189 ua (ud + 1) un (us + 6) := Rd.mv g_185 (fun c j hcj => m_190 c j (by omega)) (by have q39 := m_190 229 39 (by omega); omega)
        refine g_iload_n (n := 56) hx 0 (dq tX10_compared 30 rfl) rfl rfl ?_
        refine g_bipush (n := 58) hx (dq tX10_compared 31 rfl) rfl (by decide) ?_
        refine g_icmp_eq (n := 61) (t := 74) hx (dq tX10_compared 32 rfl) (by decide) rfl h_15 ⟨by decide, by decide⟩ (fun c_193 => ?_) (fun c_193 => ?_)
        · omega
        · refine g_aload_n (n := 62) hx 1 (dq tX10_compared 33 rfl) rfl rfl ?_
          have e_194 : M_189 229 37 = M_178 229 37 := (m_190 229 37 (by omega))
          have e_195 : M_189 229 39 = M_178 229 39 := (m_190 229 39 (by omega))
          refine g_callVi (n := 65) (As := []) (rest := []) hx (ctX10_sign Γ M_189 ) mlX10_252 (obX10 (by decide)) (dq tX10_compared 34 rfl) rfl (Nat.le_of_ble_eq_true rfl) (Nat.le_of_ble_eq_true rfl) (Nat.le_of_ble_eq_true rfl) rfl (fun z_196 M_197 h_198 p_199 => ?_)
          obtain ⟨rfl, h_201, h_202, h_203⟩ := p_199
          refine g_bipush (n := 67) hx (dq tX10_compared 35 rfl) rfl (by decide) ?_
          refine g_icmp_ne (n := 70) (t := 74) hx (dq tX10_compared 36 rfl) (by decide) rfl h_198 ⟨by decide, by decide⟩ (fun c_204 => ?_) (fun c_204 => ?_)
          · refine g_iconst (n := 75) hx (dq tX10_compared 39 rfl) rfl ?_
            refine g_istore_n (n := 76) (lv' := [(2, vI 0), (1, vI z_13), (0, aR Γ 229)]) hx (dq tX10_compared 40 rfl) (by decide) rfl rfl ?_
            refine g_aload_n (n := 77) hx 2 (dq tX10_compared 41 rfl) rfl rfl ?_
            refine g_dup (n := 78) hx (dq tX10_compared 42 rfl) rfl rfl ?_
            refine g_getI (n := 81) hx glX10_249 (sX10_38 (by decide)) (dq tX10_compared 43 rfl) rfl (fun h_205l h_205u => ?_)
            refine g_iload_n (n := 82) hx 0 (dq tX10_compared 44 rfl) rfl rfl ?_
            refine g_if_eq (n := 85) (t := 89) hx (dq tX10_compared 45 rfl) (by decide) rfl ⟨by decide, by decide⟩ (fun c_206 => ?_) (fun c_206 => ?_)
            · refine g_iconst (n := 90) hx (dq tX10_compared 48 rfl) rfl ?_
              refine g_iadd (n := 91) hx (dq tX10_compared 49 rfl) rfl ?_
              refine g_putI (n := 94) hx plX10_249 (sX10_38 (by decide)) (dq tX10_compared 50 rfl) rfl (by omega) (by omega) (fun M_207 m_208e m_208 => ?_)
              have g_209 : Kp M M_207 := Kp.frame g_191 (fun c j hcj => m_208 c j (by omega))
              have g_210 : Rd M_207 ua (ud + 1) un (us + 6) := Rd.mv g_192 (fun c j hcj => m_208 c j (by omega)) (by have q39 := m_208 229 39 (by omega); omega)
              refine g_aload_n (n := 95) hx 2 (dq tX10_compared 51 rfl) rfl rfl ?_
              have e_211 : M_207 229 37 = M_189 229 37 := (m_208 229 37 (by omega))
              have e_212 : M_207 229 39 = M_189 229 39 := (m_208 229 39 (by omega))
              refine g_callVv (n := 98) (As := []) (rest := []) hx (ctX10_sum Γ M_207 ua (ud + 1) un (us + 6) (by omega) (by omega) g_210) mlX10_312 (obX10 (by decide)) (dq tX10_compared 52 rfl) rfl (Nat.le_of_ble_eq_true rfl) (Nat.le_of_ble_eq_true rfl) (Nat.le_of_ble_eq_true rfl) rfl (fun M_214 p_216 => ?_)
              obtain ⟨f_217, h_218, h_219, h_220, h_221⟩ := p_216
              have g_222 := Kp.trans g_209 h_219
              have g_223 : Rd M_214 ua (ud + 2) un (us + 6) := Rd.to h_218 (by omega) (by omega) (by omega)
              refine g_aload_n (n := 99) hx 2 (dq tX10_compared 53 rfl) rfl rfl ?_
              refine g_iload_n (n := 100) hx 1 (dq tX10_compared 54 rfl) rfl rfl ?_
              refine g_bipush (n := 102) hx (dq tX10_compared 55 rfl) rfl (by decide) ?_
              refine g_icmp_ne (n := 105) (t := 110) hx (dq tX10_compared 56 rfl) (by decide) rfl h_15 ⟨by decide, by decide⟩ (fun c_224 => ?_) (fun c_224 => ?_)
              · refine g_iload_n (n := 111) hx 1 (dq tX10_compared 59 rfl) rfl rfl ?_
                refine g_bipush (n := 113) hx (dq tX10_compared 60 rfl) rfl (by decide) ?_
                refine g_icmp_ne (n := 116) (t := 128) hx (dq tX10_compared 61 rfl) (by decide) rfl h_15 ⟨by decide, by decide⟩ (fun c_225 => ?_) (fun c_225 => ?_)
                · refine g_iload_n (n := 129) hx 0 (dq tX10_compared 68 rfl) rfl rfl ?_
                  refine g_if_eq (n := 132) (t := 137) hx (dq tX10_compared 69 rfl) (by decide) rfl ⟨by decide, by decide⟩ (fun c_226 => ?_) (fun c_226 => ?_)
                  · refine g_bipush (n := 139) hx (dq tX10_compared 72 rfl) rfl (by decide) ?_
                    refine g_iconst (n := 140) hx (dq tX10_compared 73 rfl) rfl ?_
                    have e_227 : M_214 229 37 = M_207 229 37 := (f_217 229 37 (by omega))
                    refine g_callVv (n := 143) (As := [vI 8, vI 0]) (rest := []) hx (ctX10_entry2 Γ M_214 8 (by decide) (by decide) 0 (by decide) (by decide) ua (ud + 2) un (us + 6) (by omega) (by omega) (by omega) g_223) mlX10_299 (obX10 (by decide)) (dq tX10_compared 74 rfl) rfl (Nat.le_of_ble_eq_true rfl) (Nat.le_of_ble_eq_true rfl) (Nat.le_of_ble_eq_true rfl) rfl (fun M_229 p_231 => ?_)
                    obtain ⟨f_232, h_233, h_234⟩ := p_231
                    have g_235 := Kp.trans g_222 h_234
                    have g_236 : Rd M_229 ua (ud + 1) un (us + 6) := Rd.to h_233 (by omega) (by omega) (by omega)
                    have e_237 : M_229 229 37 = M_214 229 37 := (f_232 229 37 (by omega))
                    have e_238 : M_229 229 38 = M_214 229 38 := (f_232 229 38 (by omega))
                    have e_239 : M_229 229 39 = M_214 229 39 := (f_232 229 39 (by omega))
                    exact g_vret hx hr (dq tX10_compared 75 rfl) ⟨(fun u_ v_ huv_ => ((((((f_232 u_ v_ ⟨huv_.2.2.2.2.1, huv_.2.2.2.2.2, huv_.2.2.1⟩).trans (f_217 u_ v_ ⟨huv_.1, huv_.2.1, huv_.2.2.1, huv_.2.2.2.1, huv_.2.2.2.2.1, huv_.2.2.2.2.2⟩)).trans (m_208 u_ v_ huv_.1)).trans (m_190 u_ v_ huv_.1)).trans (f_181 u_ v_ ⟨huv_.2.1, huv_.2.2.2.1⟩)).trans (f_5 u_ v_ ⟨huv_.1, huv_.2.1, huv_.2.2.1, huv_.2.2.2.1, huv_.2.2.2.2.1, huv_.2.2.2.2.2⟩))), (Rd.to g_236 (by omega) (by omega) (by omega)), g_235, (by omega), (by omega)⟩
                  · omega
                · omega
              · omega
            · omega
          · refine g_iconst (n := 71) hx (dq tX10_compared 37 rfl) rfl ?_
            refine g_goto (n := 75) hx (dq tX10_compared 38 rfl) (by decide) ?_
            refine g_istore_n (n := 76) (lv' := [(2, vI 1), (1, vI z_13), (0, aR Γ 229)]) hx (dq tX10_compared 40 rfl) (by decide) rfl rfl ?_
            refine g_aload_n (n := 77) hx 2 (dq tX10_compared 41 rfl) rfl rfl ?_
            refine g_dup (n := 78) hx (dq tX10_compared 42 rfl) rfl rfl ?_
            refine g_getI (n := 81) hx glX10_249 (sX10_38 (by decide)) (dq tX10_compared 43 rfl) rfl (fun h_240l h_240u => ?_)
            refine g_iload_n (n := 82) hx 0 (dq tX10_compared 44 rfl) rfl rfl ?_
            refine g_if_eq (n := 85) (t := 89) hx (dq tX10_compared 45 rfl) (by decide) rfl ⟨by decide, by decide⟩ (fun c_241 => ?_) (fun c_241 => ?_)
            · omega
            · refine g_iconst (n := 86) hx (dq tX10_compared 46 rfl) rfl ?_
              refine g_goto (n := 90) hx (dq tX10_compared 47 rfl) (by decide) ?_
              refine g_iadd (n := 91) hx (dq tX10_compared 49 rfl) rfl ?_
              refine g_putI (n := 94) hx plX10_249 (sX10_38 (by decide)) (dq tX10_compared 50 rfl) rfl (by omega) (by omega) (fun M_242 m_243e m_243 => ?_)
              have g_244 : Kp M M_242 := Kp.frame g_191 (fun c j hcj => m_243 c j (by omega))
              have g_245 : Rd M_242 ua (ud + 1) un (us + 6) := Rd.mv g_192 (fun c j hcj => m_243 c j (by omega)) (by have q39 := m_243 229 39 (by omega); omega)
              refine g_aload_n (n := 95) hx 2 (dq tX10_compared 51 rfl) rfl rfl ?_
              have e_246 : M_242 229 37 = M_189 229 37 := (m_243 229 37 (by omega))
              have e_247 : M_242 229 39 = M_189 229 39 := (m_243 229 39 (by omega))
              refine g_callVv (n := 98) (As := []) (rest := []) hx (ctX10_sum Γ M_242 ua (ud + 1) un (us + 6) (by omega) (by omega) g_245) mlX10_312 (obX10 (by decide)) (dq tX10_compared 52 rfl) rfl (Nat.le_of_ble_eq_true rfl) (Nat.le_of_ble_eq_true rfl) (Nat.le_of_ble_eq_true rfl) rfl (fun M_249 p_251 => ?_)
              obtain ⟨f_252, h_253, h_254, h_255, h_256⟩ := p_251
              have g_257 := Kp.trans g_244 h_254
              have g_258 : Rd M_249 ua (ud + 2) un (us + 6) := Rd.to h_253 (by omega) (by omega) (by omega)
              refine g_aload_n (n := 99) hx 2 (dq tX10_compared 53 rfl) rfl rfl ?_
              refine g_iload_n (n := 100) hx 1 (dq tX10_compared 54 rfl) rfl rfl ?_
              refine g_bipush (n := 102) hx (dq tX10_compared 55 rfl) rfl (by decide) ?_
              refine g_icmp_ne (n := 105) (t := 110) hx (dq tX10_compared 56 rfl) (by decide) rfl h_15 ⟨by decide, by decide⟩ (fun c_259 => ?_) (fun c_259 => ?_)
              · refine g_iload_n (n := 111) hx 1 (dq tX10_compared 59 rfl) rfl rfl ?_
                refine g_bipush (n := 113) hx (dq tX10_compared 60 rfl) rfl (by decide) ?_
                refine g_icmp_ne (n := 116) (t := 128) hx (dq tX10_compared 61 rfl) (by decide) rfl h_15 ⟨by decide, by decide⟩ (fun c_260 => ?_) (fun c_260 => ?_)
                · refine g_iload_n (n := 129) hx 0 (dq tX10_compared 68 rfl) rfl rfl ?_
                  refine g_if_eq (n := 132) (t := 137) hx (dq tX10_compared 69 rfl) (by decide) rfl ⟨by decide, by decide⟩ (fun c_261 => ?_) (fun c_261 => ?_)
                  · omega
                  · refine g_bipush (n := 134) hx (dq tX10_compared 70 rfl) rfl (by decide) ?_
                    refine g_goto (n := 139) hx (dq tX10_compared 71 rfl) (by decide) ?_
                    refine g_iconst (n := 140) hx (dq tX10_compared 73 rfl) rfl ?_
                    have e_262 : M_249 229 37 = M_242 229 37 := (f_252 229 37 (by omega))
                    refine g_callVv (n := 143) (As := [vI 7, vI 0]) (rest := []) hx (ctX10_entry2 Γ M_249 7 (by decide) (by decide) 0 (by decide) (by decide) ua (ud + 2) un (us + 6) (by omega) (by omega) (by omega) g_258) mlX10_299 (obX10 (by decide)) (dq tX10_compared 74 rfl) rfl (Nat.le_of_ble_eq_true rfl) (Nat.le_of_ble_eq_true rfl) (Nat.le_of_ble_eq_true rfl) rfl (fun M_264 p_266 => ?_)
                    obtain ⟨f_267, h_268, h_269⟩ := p_266
                    have g_270 := Kp.trans g_257 h_269
                    have g_271 : Rd M_264 ua (ud + 1) un (us + 6) := Rd.to h_268 (by omega) (by omega) (by omega)
                    have e_272 : M_264 229 37 = M_249 229 37 := (f_267 229 37 (by omega))
                    have e_273 : M_264 229 38 = M_249 229 38 := (f_267 229 38 (by omega))
                    have e_274 : M_264 229 39 = M_249 229 39 := (f_267 229 39 (by omega))
                    exact g_vret hx hr (dq tX10_compared 75 rfl) ⟨(fun u_ v_ huv_ => ((((((f_267 u_ v_ ⟨huv_.2.2.2.2.1, huv_.2.2.2.2.2, huv_.2.2.1⟩).trans (f_252 u_ v_ ⟨huv_.1, huv_.2.1, huv_.2.2.1, huv_.2.2.2.1, huv_.2.2.2.2.1, huv_.2.2.2.2.2⟩)).trans (m_243 u_ v_ huv_.1)).trans (m_190 u_ v_ huv_.1)).trans (f_181 u_ v_ ⟨huv_.2.1, huv_.2.2.2.1⟩)).trans (f_5 u_ v_ ⟨huv_.1, huv_.2.1, huv_.2.2.1, huv_.2.2.2.1, huv_.2.2.2.2.1, huv_.2.2.2.2.2⟩))), (Rd.to g_271 (by omega) (by omega) (by omega)), g_270, (by omega), (by omega)⟩
                · omega
              · omega
      · refine g_aload_n (n := 28) hx 1 (dq tX10_compared 14 rfl) rfl rfl ?_
        refine g_iconst (n := 29) hx (dq tX10_compared 15 rfl) rfl ?_
        refine g_aload_n (n := 30) hx 1 (dq tX10_compared 16 rfl) rfl rfl ?_
        refine g_getI (n := 33) hx glX10_249 (sX10_38 (by decide)) (dq tX10_compared 17 rfl) rfl (fun h_275l h_275u => ?_)
        refine g_callVv (n := 36) (As := [vI 0, vI (M_2 229 38)]) (rest := []) hx (ctX10_fails Γ M_2 0 (by decide) (by decide) (M_2 229 38) (by omega) (by omega)) mlX10_284 (obX10 (by decide)) (dq tX10_compared 18 rfl) rfl (Nat.le_of_ble_eq_true rfl) (Nat.le_of_ble_eq_true rfl) (Nat.le_of_ble_eq_true rfl) rfl (fun M_277 p_279 => ?_)
        obtain ⟨f_280, h_281⟩ := p_279
        have g_282 : Kp M M_277 := Kp.frame g_10 (fun c j hcj => f_280 c j (by omega))
        have e_284 : M_277 229 37 = M_2 229 37 := (f_280 229 37 (by omega))
        have e_285 : M_277 229 38 = M_2 229 38 := (f_280 229 38 (by omega))
        exact g_vret hx hr (dq tX10_compared 19 rfl) ⟨(fun u_ v_ huv_ => ((f_280 u_ v_ huv_.2.1).trans (f_5 u_ v_ ⟨huv_.1, huv_.2.1, huv_.2.2.1, huv_.2.2.2.1, huv_.2.2.2.2.1, huv_.2.2.2.2.2⟩))), (Rd.vac (by omega)), g_282, (by omega), (by omega)⟩
