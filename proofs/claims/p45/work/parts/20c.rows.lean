abbrev qctX4_clear (M : zM) (g : Nat) (M' : zM) : Prop := (∀ u_ v_, (u_ ≠ g ∨ v_ ≠ 1) ∧ (u_ ≠ g ∨ v_ ≠ 2) ∧ (u_ ≠ g ∨ v_ ≠ 3) ∧ u_ ≠ g + 1 → M' u_ v_ = M u_ v_)
set_option maxHeartbeats 4000000 in
set_option maxRecDepth 100000 in
theorem ctX4_clear (Γ : Gam) (M : zM) (g : Nat) (hg : isX4 g)  : CtV Γ yX4_clear cX4_clear 1 none 0 0 [aR Γ g] M (qctX4_clear M g) := by
  refine met_v (by decide) (Nat.le_of_ble_eq_true rfl) (fun x hx hr => ?_)
  show G Γ x 1 (QV Γ x (qctX4_clear M g)) M 0 [(0, aR Γ g)] []
  refine g_aload_n (n := 1) hx 0 (dq tX4_clear 0 rfl) rfl rfl ?_
  refine g_iconst (n := 2) hx (dq tX4_clear 1 rfl) rfl ?_
  refine g_putI (n := 5) hx plX4_19 (sX4_1 hg) (dq tX4_clear 2 rfl) rfl (by omega) (by omega) (fun M_1 m_2e m_2 => ?_)
  refine g_aload_n (n := 6) hx 0 (dq tX4_clear 3 rfl) rfl rfl ?_
  refine g_iconst (n := 7) hx (dq tX4_clear 4 rfl) rfl ?_
  refine g_putI (n := 10) hx plX4_23 (sX4_2 hg) (dq tX4_clear 5 rfl) rfl (by omega) (by omega) (fun M_3 m_4e m_4 => ?_)
  refine g_aload_n (n := 11) hx 0 (dq tX4_clear 6 rfl) rfl rfl ?_
  refine g_iconst (n := 12) hx (dq tX4_clear 7 rfl) rfl ?_
  refine g_putI (n := 15) hx plX4_26 (sX4_3 hg) (dq tX4_clear 8 rfl) rfl (by omega) (by omega) (fun M_5 m_6e m_6 => ?_)
  exact g_vret hx hr (dq tX4_clear 9 rfl) (fun u_ v_ huv_ => (((m_6 u_ v_ (by omega)).trans (m_4 u_ v_ (by omega))).trans (m_2 u_ v_ (by omega))))

abbrev qctX4_write (M : zM) (g : Nat) (step : Int) (M' : zM) : Prop := (∀ u_ v_, (u_ ≠ g ∨ v_ ≠ 1) ∧ (u_ ≠ g ∨ v_ ≠ 2) ∧ (u_ ≠ g ∨ v_ ≠ 3) ∧ u_ ≠ g + 1 → M' u_ v_ = M u_ v_)
set_option maxHeartbeats 4000000 in
set_option maxRecDepth 100000 in
theorem ctX4_write (Γ : Gam) (M : zM) (g : Nat) (hg : isX4 g) (step : Int) (hstepl : (-2147483648) ≤ step) (hstepu : step ≤ 2147483647)  : CtV Γ yX4_write cX4_write 2 none 0 0 [aR Γ g, vI step] M (qctX4_write M g step) := by
  refine met_v (by decide) (Nat.le_of_ble_eq_true rfl) (fun x hx hr => ?_)
  show G Γ x 2 (QV Γ x (qctX4_write M g step)) M 0 [(0, aR Γ g), (1, vI step)] []
  refine g_aload_n (n := 1) hx 0 (dq tX4_write 0 rfl) rfl rfl ?_
  refine g_getI (n := 4) hx glX4_19 (sX4_1 hg) (dq tX4_write 1 rfl) rfl (fun h_1l h_1u => ?_)
  refine g_sipush (n := 7) hx (dq tX4_write 2 rfl) rfl (by decide) ?_
  refine g_icmp_ge (n := 10) (t := 30) hx (dq tX4_write 3 rfl) (by decide) rfl (zrI h_1l h_1u (by decide) (by decide)) ⟨by decide, by decide⟩ (fun c_2 => ?_) (fun c_2 => ?_)
  · refine g_iload_n (n := 31) hx 1 (dq tX4_write 16 rfl) rfl rfl ?_
    refine g_if_lt (n := 34) (t := 52) hx (dq tX4_write 17 rfl) (by decide) rfl (zrI hstepl hstepu (by decide) (by decide)) (fun c_3 => ?_) (fun c_3 => ?_)
    · exact g_vret hx hr (dq tX4_write 29 rfl) (fun _ _ _ => rfl)
    · refine g_iload_n (n := 35) hx 1 (dq tX4_write 18 rfl) rfl rfl ?_
      refine g_bipush (n := 37) hx (dq tX4_write 19 rfl) rfl (by decide) ?_
      refine g_icmp_ge (n := 40) (t := 52) hx (dq tX4_write 20 rfl) (by decide) rfl (zrI hstepl hstepu (by decide) (by decide)) ⟨by decide, by decide⟩ (fun c_4 => ?_) (fun c_4 => ?_)
      · exact g_vret hx hr (dq tX4_write 29 rfl) (fun _ _ _ => rfl)
      · refine g_aload_n (n := 41) hx 0 (dq tX4_write 21 rfl) rfl rfl ?_
        refine g_dup (n := 42) hx (dq tX4_write 22 rfl) rfl rfl ?_
        refine g_getI (n := 45) hx glX4_26 (sX4_3 hg) (dq tX4_write 23 rfl) rfl (fun h_5l h_5u => ?_)
        refine g_iconst (n := 46) hx (dq tX4_write 24 rfl) rfl ?_
        refine g_iload_n (n := 47) hx 1 (dq tX4_write 25 rfl) rfl rfl ?_
        refine g_ishl1 (n := 48) hx (dq tX4_write 26 rfl) rfl (by omega) (by omega) ?_
        refine g_nam (fun z_6 h_7 => ?_)
        have h_81 := pw1 (k := 12) (by omega) (by omega) h_7
        obtain ⟨h_82, h_83⟩ := h_81
        refine g_ior (n := 49) hx (dq tX4_write 27 rfl) rfl (fun z_9 h_10 h_11 => ?_)
        clear h_11
        refine g_putI (n := 52) hx plX4_26 (sX4_3 hg) (dq tX4_write 28 rfl) rfl (by omega) (by omega) (fun M_12 m_13e m_13 => ?_)
        exact g_vret hx hr (dq tX4_write 29 rfl) (fun u_ v_ huv_ => (m_13 u_ v_ (by omega)))
  · refine g_aload_n (n := 11) hx 0 (dq tX4_write 4 rfl) rfl rfl ?_
    refine g_getR (n := 14) hx glX4_9 (sX4_0 hg) (dq tX4_write 5 rfl) rfl ?_
    refine g_aload_n (n := 15) hx 0 (dq tX4_write 6 rfl) rfl rfl ?_
    refine g_getI (n := 18) hx glX4_19 (sX4_1 hg) (dq tX4_write 7 rfl) rfl (fun h_14l h_14u => ?_)
    refine g_iload_n (n := 19) hx 1 (dq tX4_write 8 rfl) rfl rfl ?_
    refine g_iast (n := 20) (q := (M g 1).toNat) hx (aX4_0 (b := g) hg) (dq tX4_write 9 rfl) rfl (by omega) (by omega) (by omega) rfl (by omega) (by omega) (fun M_15 m_16e m_16 => ?_)
    refine g_aload_n (n := 21) hx 0 (dq tX4_write 10 rfl) rfl rfl ?_
    refine g_dup (n := 22) hx (dq tX4_write 11 rfl) rfl rfl ?_
    refine g_getI (n := 25) hx glX4_19 (sX4_1 hg) (dq tX4_write 12 rfl) rfl (fun h_17l h_17u => ?_)
    have e_18 : M_15 g 1 = M g 1 := (m_16 g 1 (by omega))
    refine g_iconst (n := 26) hx (dq tX4_write 13 rfl) rfl ?_
    refine g_iadd (n := 27) hx (dq tX4_write 14 rfl) rfl ?_
    refine g_putI (n := 30) hx plX4_19 (sX4_1 hg) (dq tX4_write 15 rfl) rfl (by omega) (by omega) (fun M_19 m_20e m_20 => ?_)
    refine g_iload_n (n := 31) hx 1 (dq tX4_write 16 rfl) rfl rfl ?_
    refine g_if_lt (n := 34) (t := 52) hx (dq tX4_write 17 rfl) (by decide) rfl (zrI hstepl hstepu (by decide) (by decide)) (fun c_21 => ?_) (fun c_21 => ?_)
    · exact g_vret hx hr (dq tX4_write 29 rfl) (fun u_ v_ huv_ => ((m_20 u_ v_ (by omega)).trans (m_16 u_ v_ (by omega))))
    · refine g_iload_n (n := 35) hx 1 (dq tX4_write 18 rfl) rfl rfl ?_
      refine g_bipush (n := 37) hx (dq tX4_write 19 rfl) rfl (by decide) ?_
      refine g_icmp_ge (n := 40) (t := 52) hx (dq tX4_write 20 rfl) (by decide) rfl (zrI hstepl hstepu (by decide) (by decide)) ⟨by decide, by decide⟩ (fun c_22 => ?_) (fun c_22 => ?_)
      · exact g_vret hx hr (dq tX4_write 29 rfl) (fun u_ v_ huv_ => ((m_20 u_ v_ (by omega)).trans (m_16 u_ v_ (by omega))))
      · refine g_aload_n (n := 41) hx 0 (dq tX4_write 21 rfl) rfl rfl ?_
        refine g_dup (n := 42) hx (dq tX4_write 22 rfl) rfl rfl ?_
        refine g_getI (n := 45) hx glX4_26 (sX4_3 hg) (dq tX4_write 23 rfl) rfl (fun h_23l h_23u => ?_)
        refine g_iconst (n := 46) hx (dq tX4_write 24 rfl) rfl ?_
        refine g_iload_n (n := 47) hx 1 (dq tX4_write 25 rfl) rfl rfl ?_
        refine g_ishl1 (n := 48) hx (dq tX4_write 26 rfl) rfl (by omega) (by omega) ?_
        refine g_nam (fun z_24 h_25 => ?_)
        have h_261 := pw1 (k := 12) (by omega) (by omega) h_25
        obtain ⟨h_262, h_263⟩ := h_261
        refine g_ior (n := 49) hx (dq tX4_write 27 rfl) rfl (fun z_27 h_28 h_29 => ?_)
        clear h_29
        refine g_putI (n := 52) hx plX4_26 (sX4_3 hg) (dq tX4_write 28 rfl) rfl (by omega) (by omega) (fun M_30 m_31e m_31 => ?_)
        exact g_vret hx hr (dq tX4_write 29 rfl) (fun u_ v_ huv_ => (((m_31 u_ v_ (by omega)).trans (m_20 u_ v_ (by omega))).trans (m_16 u_ v_ (by omega))))

abbrev qctX4_begin (M : zM) (g : Nat) (kind : Int) (z : Int) (M' : zM) : Prop := (∀ u_ v_, (u_ ≠ g ∨ v_ ≠ 1) ∧ (u_ ≠ g ∨ v_ ≠ 2) ∧ (u_ ≠ g ∨ v_ ≠ 3) ∧ u_ ≠ g + 1 → M' u_ v_ = M u_ v_)
set_option maxHeartbeats 4000000 in
set_option maxRecDepth 100000 in
theorem ctX4_begin (Γ : Gam) (M : zM) (g : Nat) (hg : isX4 g) (kind : Int) (hkindl : (-2147483648) ≤ kind) (hkindu : kind ≤ 2147483647)  : CtI Γ yX4_begin cX4_begin 2 (some .int) 1 21 [aR Γ g, vI kind] M (qctX4_begin M g kind) := by
  refine met_i (by decide) (Nat.le_of_ble_eq_true rfl) (fun x hx hr => ?_)
  show G Γ x 2 (QI Γ x (qctX4_begin M g kind)) M 0 [(0, aR Γ g), (1, vI kind)] []
  refine g_aload_n (n := 1) hx 0 (dq tX4_begin 0 rfl) rfl rfl ?_
  refine g_dup (n := 2) hx (dq tX4_begin 1 rfl) rfl rfl ?_
  refine g_getI (n := 5) hx glX4_23 (sX4_2 hg) (dq tX4_begin 2 rfl) rfl (fun h_1l h_1u => ?_)
  refine g_iconst (n := 6) hx (dq tX4_begin 3 rfl) rfl ?_
  refine g_iload_n (n := 7) hx 1 (dq tX4_begin 4 rfl) rfl rfl ?_
  refine g_ishl (n := 8) hx (dq tX4_begin 5 rfl) rfl (fun z_2 h_3 => ?_)
  refine g_ior (n := 9) hx (dq tX4_begin 6 rfl) rfl (fun z_5 h_6 h_7 => ?_)
  clear h_7
  refine g_putI (n := 12) hx plX4_23 (sX4_2 hg) (dq tX4_begin 7 rfl) rfl (by omega) (by omega) (fun M_8 m_9e m_9 => ?_)
  refine g_aload_n (n := 13) hx 0 (dq tX4_begin 8 rfl) rfl rfl ?_
  refine g_bipush (n := 15) hx (dq tX4_begin 9 rfl) rfl (by decide) ?_
  refine g_iload_n (n := 16) hx 1 (dq tX4_begin 10 rfl) rfl rfl ?_
  refine g_iadd (n := 17) hx (dq tX4_begin 11 rfl) rfl ?_
  refine g_any (fun z_10 h_11 => ?_)
  refine g_callVv (n := 20) (As := [vI z_10]) (rest := []) hx (ctX4_write Γ M_8 g hg z_10 (by omega) (by omega)) mlX4_29 (obX4 hg) (dq tX4_begin 12 rfl) rfl (Nat.le_of_ble_eq_true rfl) (Nat.le_of_ble_eq_true rfl) (Nat.le_of_ble_eq_true rfl) rfl (fun M_13 p_15 => ?_)
  have f_16 := p_15
  refine g_aload_n (n := 21) hx 0 (dq tX4_begin 13 rfl) rfl rfl ?_
  refine g_iconst (n := 22) hx (dq tX4_begin 14 rfl) rfl ?_
  refine g_callVv (n := 25) (As := [vI 0]) (rest := []) hx (ctX4_write Γ M_13 g hg 0 (by decide) (by decide)) mlX4_29 (obX4 hg) (dq tX4_begin 15 rfl) rfl (Nat.le_of_ble_eq_true rfl) (Nat.le_of_ble_eq_true rfl) (Nat.le_of_ble_eq_true rfl) rfl (fun M_18 p_20 => ?_)
  have f_21 := p_20
  refine g_aload_n (n := 26) hx 0 (dq tX4_begin 16 rfl) rfl rfl ?_
  refine g_getI (n := 29) hx glX4_19 (sX4_1 hg) (dq tX4_begin 17 rfl) rfl (fun h_22l h_22u => ?_)
  refine g_iconst (n := 30) hx (dq tX4_begin 18 rfl) rfl ?_
  refine g_isub (n := 31) hx (dq tX4_begin 19 rfl) rfl ?_
  exact g_iret hx hr (dq tX4_begin 20 rfl) ⟨by omega, by omega⟩ (fun u_ v_ huv_ => (((f_21 u_ v_ (by omega)).trans (f_16 u_ v_ (by omega))).trans (m_9 u_ v_ (by omega))))

abbrev qctX4_close (M : zM) (g : Nat) (begun : Int) (M' : zM) : Prop := (∀ u_ v_, (u_ ≠ g ∨ v_ ≠ 1) ∧ (u_ ≠ g ∨ v_ ≠ 2) ∧ (u_ ≠ g ∨ v_ ≠ 3) ∧ u_ ≠ g + 1 → M' u_ v_ = M u_ v_)
set_option maxHeartbeats 4000000 in
set_option maxRecDepth 100000 in
theorem ctX4_close (Γ : Gam) (M : zM) (g : Nat) (hg : isX4 g) (begun : Int) (hbegunl : (-2147483648) ≤ begun) (hbegunu : begun ≤ 2147483647)  : CtV Γ yX4_close cX4_close 2 none 0 0 [aR Γ g, vI begun] M (qctX4_close M g begun) := by
  refine met_v (by decide) (Nat.le_of_ble_eq_true rfl) (fun x hx hr => ?_)
  show G Γ x 2 (QV Γ x (qctX4_close M g begun)) M 0 [(0, aR Γ g), (1, vI begun)] []
  refine g_iload_n (n := 1) hx 1 (dq tX4_close 0 rfl) rfl rfl ?_
  refine g_if_lt (n := 4) (t := 22) hx (dq tX4_close 1 rfl) (by decide) rfl (zrI hbegunl hbegunu (by decide) (by decide)) (fun c_1 => ?_) (fun c_1 => ?_)
  · exact g_vret hx hr (dq tX4_close 12 rfl) (fun _ _ _ => rfl)
  · refine g_iload_n (n := 5) hx 1 (dq tX4_close 2 rfl) rfl rfl ?_
    refine g_aload_n (n := 6) hx 0 (dq tX4_close 3 rfl) rfl rfl ?_
    refine g_getI (n := 9) hx glX4_19 (sX4_1 hg) (dq tX4_close 4 rfl) rfl (fun h_2l h_2u => ?_)
    refine g_icmp_ge (n := 12) (t := 22) hx (dq tX4_close 5 rfl) (by decide) rfl (zrI hbegunl hbegunu (by decide) (by decide)) (zrI h_2l h_2u (by decide) (by decide)) (fun c_3 => ?_) (fun c_3 => ?_)
    · exact g_vret hx hr (dq tX4_close 12 rfl) (fun _ _ _ => rfl)
    · refine g_aload_n (n := 13) hx 0 (dq tX4_close 6 rfl) rfl rfl ?_
      refine g_getR (n := 16) hx glX4_9 (sX4_0 hg) (dq tX4_close 7 rfl) rfl ?_
      refine g_iload_n (n := 17) hx 1 (dq tX4_close 8 rfl) rfl rfl ?_
      refine g_aload_n (n := 18) hx 0 (dq tX4_close 9 rfl) rfl rfl ?_
      refine g_getI (n := 21) hx glX4_19 (sX4_1 hg) (dq tX4_close 10 rfl) rfl (fun h_4l h_4u => ?_)
      refine g_iast (n := 22) (q := begun.toNat) hx (aX4_0 (b := g) hg) (dq tX4_close 11 rfl) rfl (by omega) (by omega) (by omega) rfl (by omega) (by omega) (fun M_5 m_6e m_6 => ?_)
      exact g_vret hx hr (dq tX4_close 12 rfl) (fun u_ v_ huv_ => (m_6 u_ v_ (by omega)))
