abbrev qctX4_clear (M : zM) (g : Nat) (M' : zM) : Prop := (∀ u_ v_, (u_ ≠ g ∨ v_ ≠ 1) ∧ (u_ ≠ g ∨ v_ ≠ 2) ∧ (u_ ≠ g ∨ v_ ≠ 3) ∧ u_ ≠ g + 1 → M' u_ v_ = M u_ v_)
set_option maxHeartbeats 4000000 in
set_option maxRecDepth 100000 in
theorem ctX4_clear (Γ : Gam) (M : zM) (g : Nat) (hg : isX4 g)  : CtV Γ yX4_clear cX4_clear 1 none 0 0 [aR Γ g] M (qctX4_clear M g) := by
  refine met_v (by decide) (Nat.le_of_ble_eq_true rfl) (fun x hx hr => ?_)
  show G Γ x 1 (QV Γ x (qctX4_clear M g)) M 0 [(0, aR Γ g)] []
  refine g_aload_n (n := 1) hx 0 (dq tX4_clear 0 rfl) rfl rfl ?_
  refine g_iconst (n := 2) hx (dq tX4_clear 1 rfl) rfl ?_
  refine g_putI (n := 5) hx plX4_19 (sX4_1 hg) (dq tX4_clear 2 rfl) rfl (by omega) (by omega) (fun M_1 m_2e m_2 => ?_)
  refine g_aload_n (n := 6) hx 0 (dq tX4_clear 3 rfl) rfl rfl ?_
  refine g_iconst (n := 7) hx (dq tX4_clear 4 rfl) rfl ?_
  refine g_putI (n := 10) hx plX4_23 (sX4_2 hg) (dq tX4_clear 5 rfl) rfl (by omega) (by omega) (fun M_3 m_4e m_4 => ?_)
  refine g_aload_n (n := 11) hx 0 (dq tX4_clear 6 rfl) rfl rfl ?_
  refine g_iconst (n := 12) hx (dq tX4_clear 7 rfl) rfl ?_
  refine g_putI (n := 15) hx plX4_26 (sX4_3 hg) (dq tX4_clear 8 rfl) rfl (by omega) (by omega) (fun M_5 m_6e m_6 => ?_)
  exact g_vret hx hr (dq tX4_clear 9 rfl) (fun u_ v_ huv_ => (((m_6 u_ v_ (by omega)).trans (m_4 u_ v_ (by omega))).trans (m_2 u_ v_ (by omega))))

abbrev qctX4_write (M : zM) (g : Nat) (step : Int) (M' : zM) : Prop := (∀ u_ v_, (u_ ≠ g ∨ v_ ≠ 1) ∧ (u_ ≠ g ∨ v_ ≠ 2) ∧ (u_ ≠ g ∨ v_ ≠ 3) ∧ u_ ≠ g + 1 → M' u_ v_ = M u_ v_)
set_option maxHeartbeats 4000000 in
set_option maxRecDepth 100000 in
theorem ctX4_write (Γ : Gam) (M : zM) (g : Nat) (hg : isX4 g) (step : Int) (hstepl : (-2147483648) ≤ step) (hstepu : step ≤ 2147483647)  : CtV Γ yX4_write cX4_write 2 none 0 0 [aR Γ g, vI step] M (qctX4_write M g step) := by
  refine met_v (by decide) (Nat.le_of_ble_eq_true rfl) (fun x hx hr => ?_)
  show G Γ x 2 (QV Γ x (qctX4_write M g step)) M 0 [(0, aR Γ g), (1, vI step)] []
  refine g_aload_n (n := 1) hx 0 (dq tX4_write 0 rfl) rfl rfl ?_
  refine g_getI (n := 4) hx glX4_19 (sX4_1 hg) (dq tX4_write 1 rfl) rfl (fun h_1l h_1u => ?_)
  refine g_sipush (n := 7) hx (dq tX4_write 2 rfl) rfl (by decide) ?_
  refine g_icmp_ge (n := 10) (t := 30) hx (dq tX4_write 3 rfl) (by decide) rfl (zrI h_1l h_1u (by decide) (by decide)) ⟨by decide, by decide⟩ (fun c_2 => ?_) (fun c_2 => ?_)
  · refine g_iload_n (n := 31) hx 1 (dq tX4_write 16 rfl) rfl rfl ?_
    refine g_if_lt (n := 34) (t := 52) hx (dq tX4_write 17 rfl) (by decide) rfl (zrI hstepl hstepu (by decide) (by decide)) (fun c_3 => ?_) (fun c_3 => ?_)
    · exact g_vret hx hr (dq tX4_write 29 rfl) (fun _ _ _ => rfl)
    · refine g_iload_n (n := 35) hx 1 (dq tX4_write 18 rfl) rfl rfl ?_
      refine g_bipush (n := 37) hx (dq tX4_write 19 rfl) rfl (by decide) ?_
      refine g_icmp_ge (n := 40) (t := 52) hx (dq tX4_write 20 rfl) (by decide) rfl (zrI hstepl hstepu (by decide) (by decide)) ⟨by decide, by decide⟩ (fun c_4 => ?_) (fun c_4 => ?_)
      · exact g_vret hx hr (dq tX4_write 29 rfl) (fun _ _ _ => rfl)
      · refine g_aload_n (n := 41) hx 0 (dq tX4_write 21 rfl) rfl rfl ?_
        refine g_dup (n := 42) hx (dq tX4_write 22 rfl) rfl rfl ?_
        refine g_getI (n := 45) hx glX4_26 (sX4_3 hg) (dq tX4_write 23 rfl) rfl (fun h_5l h_5u => ?_)
        refine g_iconst (n := 46) hx (dq tX4_write 24 rfl) rfl ?_
        refine g_iload_n (n := 47) hx 1 (dq tX4_write 25 rfl) rfl rfl ?_
        refine g_ishl1 (n := 48) hx (dq tX4_write 26 rfl) rfl (by omega) (by omega) ?_
        refine g_nam (fun z_6 h_7 => ?_)
        have h_81 := pw1 (k := 12) (by omega) (by omega) h_7
        obtain ⟨h_82, h_83⟩ := h_81
        refine g_ior (n := 49) hx (dq tX4_write 27 rfl) rfl (fun z_9 h_10 h_11 => ?_)
        clear h_11
        refine g_putI (n := 52) hx plX4_26 (sX4_3 hg) (dq tX4_write 28 rfl) rfl (by omega) (by omega) (fun M_12 m_13e m_13 => ?_)
        exact g_vret hx hr (dq tX4_write 29 rfl) (fun u_ v_ huv_ => (m_13 u_ v_ (by omega)))
  · refine g_aload_n (n := 11) hx 0 (dq tX4_write 4 rfl) rfl rfl ?_
    refine g_getR (n := 14) hx glX4_9 (sX4_0 hg) (dq tX4_write 5 rfl) rfl ?_
    refine g_aload_n (n := 15) hx 0 (dq tX4_write 6 rfl) rfl rfl ?_
    refine g_getI (n := 18) hx glX4_19 (sX4_1 hg) (dq tX4_write 7 rfl) rfl (fun h_14l h_14u => ?_)
    refine g_iload_n (n := 19) hx 1 (dq tX4_write 8 rfl) rfl rfl ?_
    refine g_iast (n := 20) (q := (M g 1).toNat) hx (aX4_0 (b := g) hg) (dq tX4_write 9 rfl) rfl (by omega) (by omega) (by omega) rfl (by omega) (by omega) (fun M_15 m_16e m_16 => ?_)
    refine g_aload_n (n := 21) hx 0 (dq tX4_write 10 rfl) rfl rfl ?_
    refine g_dup (n := 22) hx (dq tX4_write 11 rfl) rfl rfl ?_
    refine g_getI (n := 25) hx glX4_19 (sX4_1 hg) (dq tX4_write 12 rfl) rfl (fun h_17l h_17u => ?_)
    have e_18 : M_15 g 1 = M g 1 := (m_16 g 1 (by omega))
    refine g_iconst (n := 26) hx (dq tX4_write 13 rfl) rfl ?_
    refine g_iadd (n := 27) hx (dq tX4_write 14 rfl) rfl ?_
    refine g_putI (n := 30) hx plX4_19 (sX4_1 hg) (dq tX4_write 15 rfl) rfl (by omega) (by omega) (fun M_19 m_20e m_20 => ?_)
    refine g_iload_n (n := 31) hx 1 (dq tX4_write 16 rfl) rfl rfl ?_
    refine g_if_lt (n := 34) (t := 52) hx (dq tX4_write 17 rfl) (by decide) rfl (zrI hstepl hstepu (by decide) (by decide)) (fun c_21 => ?_) (fun c_21 => ?_)
    · exact g_vret hx hr (dq tX4_write 29 rfl) (fun u_ v_ huv_ => ((m_20 u_ v_ (by omega)).trans (m_16 u_ v_ (by omega))))
    · refine g_iload_n (n := 35) hx 1 (dq tX4_write 18 rfl) rfl rfl ?_
      refine g_bipush (n := 37) hx (dq tX4_write 19 rfl) rfl (by decide) ?_
      refine g_icmp_ge (n := 40) (t := 52) hx (dq tX4_write 20 rfl) (by decide) rfl (zrI hstepl hstepu (by decide) (by decide)) ⟨by decide, by decide⟩ (fun c_22 => ?_) (fun c_22 => ?_)
      · exact g_vret hx hr (dq tX4_write 29 rfl) (fun u_ v_ huv_ => ((m_20 u_ v_ (by omega)).trans (m_16 u_ v_ (by omega))))
      · refine g_aload_n (n := 41) hx 0 (dq tX4_write 21 rfl) rfl rfl ?_
        refine g_dup (n := 42) hx (dq tX4_write 22 rfl) rfl rfl ?_
        refine g_getI (n := 45) hx glX4_26 (sX4_3 hg) (dq tX4_write 23 rfl) rfl (fun h_23l h_23u => ?_)
        refine g_iconst (n := 46) hx (dq tX4_write 24 rfl) rfl ?_
        refine g_iload_n (n := 47) hx 1 (dq tX4_write 25 rfl) rfl rfl ?_
        refine g_ishl1 (n := 48) hx (dq tX4_write 26 rfl) rfl (by omega) (by omega) ?_
        refine g_nam (fun z_24 h_25 => ?_)
        have h_261 := pw1 (k := 12) (by omega) (by omega) h_25
        obtain ⟨h_262, h_263⟩ := h_261
        refine g_ior (n := 49) hx (dq tX4_write 27 rfl) rfl (fun z_27 h_28 h_29 => ?_)
        clear h_29
        refine g_putI (n := 52) hx plX4_26 (sX4_3 hg) (dq tX4_write 28 rfl) rfl (by omega) (by omega) (fun M_30 m_31e m_31 => ?_)
        exact g_vret hx hr (dq tX4_write 29 rfl) (fun u_ v_ huv_ => (((m_31 u_ v_ (by omega)).trans (m_20 u_ v_ (by omega))).trans (m_16 u_ v_ (by omega))))

abbrev qctX4_begin (M : zM) (g : Nat) (kind : Int) (z : Int) (M' : zM) : Prop := (∀ u_ v_, (u_ ≠ g ∨ v_ ≠ 1) ∧ (u_ ≠ g ∨ v_ ≠ 2) ∧ (u_ ≠ g ∨ v_ ≠ 3) ∧ u_ ≠ g + 1 → M' u_ v_ = M u_ v_)
set_option maxHeartbeats 4000000 in
set_option maxRecDepth 100000 in
theorem ctX4_begin (Γ : Gam) (M : zM) (g : Nat) (hg : isX4 g) (kind : Int) (hkindl : (-2147483648) ≤ kind) (hkindu : kind ≤ 2147483647)  : CtI Γ yX4_begin cX4_begin 2 (some .int) 1 21 [aR Γ g, vI kind] M (qctX4_begin M g kind) := by
  refine met_i (by decide) (Nat.le_of_ble_eq_true rfl) (fun x hx hr => ?_)
  show G Γ x 2 (QI Γ x (qctX4_begin M g kind)) M 0 [(0, aR Γ g), (1, vI kind)] []
  refine g_aload_n (n := 1) hx 0 (dq tX4_begin 0 rfl) rfl rfl ?_
  refine g_dup (n := 2) hx (dq tX4_begin 1 rfl) rfl rfl ?_
  refine g_getI (n := 5) hx glX4_23 (sX4_2 hg) (dq tX4_begin 2 rfl) rfl (fun h_1l h_1u => ?_)
  refine g_iconst (n := 6) hx (dq tX4_begin 3 rfl) rfl ?_
  refine g_iload_n (n := 7) hx 1 (dq tX4_begin 4 rfl) rfl rfl ?_
  refine g_ishl (n := 8) hx (dq tX4_begin 5 rfl) rfl (fun z_2 h_3 => ?_)
  refine g_ior (n := 9) hx (dq tX4_begin 6 rfl) rfl (fun z_5 h_6 h_7 => ?_)
  clear h_7
  refine g_putI (n := 12) hx plX4_23 (sX4_2 hg) (dq tX4_begin 7 rfl) rfl (by omega) (by omega) (fun M_8 m_9e m_9 => ?_)
  refine g_aload_n (n := 13) hx 0 (dq tX4_begin 8 rfl) rfl rfl ?_
  refine g_bipush (n := 15) hx (dq tX4_begin 9 rfl) rfl (by decide) ?_
  refine g_iload_n (n := 16) hx 1 (dq tX4_begin 10 rfl) rfl rfl ?_
  refine g_iadd (n := 17) hx (dq tX4_begin 11 rfl) rfl ?_
  refine g_any (fun z_10 h_11 => ?_)
  refine g_callVv (n := 20) (As := [vI z_10]) (rest := []) hx (ctX4_write Γ M_8 g hg z_10 (by omega) (by omega)) mlX4_29 (obX4 hg) (dq tX4_begin 12 rfl) rfl (Nat.le_of_ble_eq_true rfl) (Nat.le_of_ble_eq_true rfl) (Nat.le_of_ble_eq_true rfl) rfl (fun M_13 p_15 => ?_)
  have f_16 := p_15
  refine g_aload_n (n := 21) hx 0 (dq tX4_begin 13 rfl) rfl rfl ?_
  refine g_iconst (n := 22) hx (dq tX4_begin 14 rfl) rfl ?_
  refine g_callVv (n := 25) (As := [vI 0]) (rest := []) hx (ctX4_write Γ M_13 g hg 0 (by decide) (by decide)) mlX4_29 (obX4 hg) (dq tX4_begin 15 rfl) rfl (Nat.le_of_ble_eq_true rfl) (Nat.le_of_ble_eq_true rfl) (Nat.le_of_ble_eq_true rfl) rfl (fun M_18 p_20 => ?_)
  have f_21 := p_20
  refine g_aload_n (n := 26) hx 0 (dq tX4_begin 16 rfl) rfl rfl ?_
  refine g_getI (n := 29) hx glX4_19 (sX4_1 hg) (dq tX4_begin 17 rfl) rfl (fun h_22l h_22u => ?_)
  refine g_iconst (n := 30) hx (dq tX4_begin 18 rfl) rfl ?_
  refine g_isub (n := 31) hx (dq tX4_begin 19 rfl) rfl ?_
  exact g_iret hx hr (dq tX4_begin 20 rfl) ⟨by omega, by omega⟩ (fun u_ v_ huv_ => (((f_21 u_ v_ (by omega)).trans (f_16 u_ v_ (by omega))).trans (m_9 u_ v_ (by omega))))

abbrev qctX4_close (M : zM) (g : Nat) (begun : Int) (M' : zM) : Prop := (∀ u_ v_, (u_ ≠ g ∨ v_ ≠ 1) ∧ (u_ ≠ g ∨ v_ ≠ 2) ∧ (u_ ≠ g ∨ v_ ≠ 3) ∧ u_ ≠ g + 1 → M' u_ v_ = M u_ v_)
set_option maxHeartbeats 4000000 in
set_option maxRecDepth 100000 in
theorem ctX4_close (Γ : Gam) (M : zM) (g : Nat) (hg : isX4 g) (begun : Int) (hbegunl : (-2147483648) ≤ begun) (hbegunu : begun ≤ 2147483647)  : CtV Γ yX4_close cX4_close 2 none 0 0 [aR Γ g, vI begun] M (qctX4_close M g begun) := by
  refine met_v (by decide) (Nat.le_of_ble_eq_true rfl) (fun x hx hr => ?_)
  show G Γ x 2 (QV Γ x (qctX4_close M g begun)) M 0 [(0, aR Γ g), (1, vI begun)] []
  refine g_iload_n (n := 1) hx 1 (dq tX4_close 0 rfl) rfl rfl ?_
  refine g_if_lt (n := 4) (t := 22) hx (dq tX4_close 1 rfl) (by decide) rfl (zrI hbegunl hbegunu (by decide) (by decide)) (fun c_1 => ?_) (fun c_1 => ?_)
  · exact g_vret hx hr (dq tX4_close 12 rfl) (fun _ _ _ => rfl)
  · refine g_iload_n (n := 5) hx 1 (dq tX4_close 2 rfl) rfl rfl ?_
    refine g_aload_n (n := 6) hx 0 (dq tX4_close 3 rfl) rfl rfl ?_
    refine g_getI (n := 9) hx glX4_19 (sX4_1 hg) (dq tX4_close 4 rfl) rfl (fun h_2l h_2u => ?_)
    refine g_icmp_ge (n := 12) (t := 22) hx (dq tX4_close 5 rfl) (by decide) rfl (zrI hbegunl hbegunu (by decide) (by decide)) (zrI h_2l h_2u (by decide) (by decide)) (fun c_3 => ?_) (fun c_3 => ?_)
    · exact g_vret hx hr (dq tX4_close 12 rfl) (fun _ _ _ => rfl)
    · refine g_aload_n (n := 13) hx 0 (dq tX4_close 6 rfl) rfl rfl ?_
      refine g_getR (n := 16) hx glX4_9 (sX4_0 hg) (dq tX4_close 7 rfl) rfl ?_
      refine g_iload_n (n := 17) hx 1 (dq tX4_close 8 rfl) rfl rfl ?_
      refine g_aload_n (n := 18) hx 0 (dq tX4_close 9 rfl) rfl rfl ?_
      refine g_getI (n := 21) hx glX4_19 (sX4_1 hg) (dq tX4_close 10 rfl) rfl (fun h_4l h_4u => ?_)
      refine g_iast (n := 22) (q := begun.toNat) hx (aX4_0 (b := g) hg) (dq tX4_close 11 rfl) rfl (by omega) (by omega) (by omega) rfl (by omega) (by omega) (fun M_5 m_6e m_6 => ?_)
      exact g_vret hx hr (dq tX4_close 12 rfl) (fun u_ v_ huv_ => (m_6 u_ v_ (by omega)))

abbrev qctX5_readSign (M : zM)  (z : Int) (M' : zM) : Prop := (∀ u_ v_, (u_ ≠ 7 ∨ v_ ≠ 2) ∧ (u_ ≠ 7 ∨ v_ ≠ 3) ∧ (u_ ≠ 7 ∨ v_ ≠ 4) ∧ (u_ ≠ 7 ∨ v_ ≠ 5) ∧ (u_ ≠ 18 ∨ v_ ≠ 1) → M' u_ v_ = M u_ v_)
set_option maxHeartbeats 4000000 in
set_option maxRecDepth 100000 in
theorem ctX5_readSign (Γ : Gam) (M : zM)   : CtI Γ yX5_readSign cX5_readSign 2 (some .int) 1 23 [aR Γ 18] M (qctX5_readSign M) := by
  refine met_i (by decide) (Nat.le_of_ble_eq_true rfl) (fun x hx hr => ?_)
  show G Γ x 2 (QI Γ x (qctX5_readSign M)) M 0 [(0, aR Γ 18)] []
  refine g_iconst (n := 1) hx (dq tX5_readSign 0 rfl) rfl ?_
  refine g_istore_n (n := 2) (lv' := [(1, vI (-1)), (0, aR Γ 18)]) hx (dq tX5_readSign 1 rfl) (by decide) rfl rfl ?_
  refine g_aload_n (n := 3) hx 1 (dq tX5_readSign 2 rfl) rfl rfl ?_
  refine g_getR (n := 6) hx glX5_9 (sX5_0 (by decide)) (dq tX5_readSign 3 rfl) rfl ?_
  refine g_getI (n := 9) hx glX5_67 (sX7_4 (by decide)) (dq tX5_readSign 4 rfl) rfl (fun h_1l h_1u => ?_)
  refine g_bipush (n := 11) hx (dq tX5_readSign 5 rfl) rfl (by decide) ?_
  have J_4 : ∀ (j_3 : Int),  ((-1) ≤ j_3) → (j_3 ≤ 25) → G Γ x 2 (QI Γ x (qctX5_readSign M)) M 83 [(1, vI j_3), (0, aR Γ 18)] [] := by
    intro j_3 h_5 h_6
    refine g_iload_n (n := 84) hx 0 (dq tX5_readSign 37 rfl) rfl rfl ?_
    refine g_iconst (n := 85) hx (dq tX5_readSign 38 rfl) rfl ?_
    refine g_icmp_eq (n := 88) (t := 97) hx (dq tX5_readSign 39 rfl) (by decide) rfl ⟨by omega, by omega⟩ ⟨by decide, by decide⟩ (fun c_7 => ?_) (fun c_7 => ?_)
    · refine g_aload_n (n := 98) hx 1 (dq tX5_readSign 44 rfl) rfl rfl ?_
      refine g_getR (n := 101) hx glX5_9 (sX5_0 (by decide)) (dq tX5_readSign 45 rfl) rfl ?_
      refine g_iload_n (n := 102) hx 0 (dq tX5_readSign 46 rfl) rfl rfl ?_
      refine g_iconst (n := 103) hx (dq tX5_readSign 47 rfl) rfl ?_
      refine g_icmp_ne (n := 106) (t := 110) hx (dq tX5_readSign 48 rfl) (by decide) rfl ⟨by omega, by omega⟩ ⟨by decide, by decide⟩ (fun c_8 => ?_) (fun c_8 => ?_)
      · omega
      · refine g_iconst (n := 107) hx (dq tX5_readSign 49 rfl) rfl ?_
        refine g_goto (n := 111) hx (dq tX5_readSign 50 rfl) (by decide) ?_
        refine g_callVi (n := 114) (As := [vI 0]) (rest := []) hx (ctX7_fails Γ M 0 (by decide) (by decide)) mlX5_35 (obX7 (by decide)) (dq tX5_readSign 52 rfl) rfl (Nat.le_of_ble_eq_true rfl) (Nat.le_of_ble_eq_true rfl) (Nat.le_of_ble_eq_true rfl) rfl (fun z_9 M_10 h_11 p_12 => ?_)
        obtain ⟨f_13, h_14, h_15⟩ := p_12
        refine g_pop (n := 115) hx (dq tX5_readSign 53 rfl) rfl rfl ?_
        refine g_iconst (n := 116) hx (dq tX5_readSign 54 rfl) rfl ?_
        exact g_iret hx hr (dq tX5_readSign 55 rfl) ⟨by decide, by decide⟩ (fun u_ v_ huv_ => (f_13 u_ v_ (by omega)))
    · refine g_aload_n (n := 89) hx 1 (dq tX5_readSign 40 rfl) rfl rfl ?_
      refine g_getI (n := 92) hx glX5_20 (sX5_1 (by decide)) (dq tX5_readSign 41 rfl) rfl (fun h_16l h_16u => ?_)
      refine g_bipush (n := 94) hx (dq tX5_readSign 42 rfl) rfl (by decide) ?_
      refine g_icmp_lt (n := 97) (t := 117) hx (dq tX5_readSign 43 rfl) (by decide) rfl (zrI h_16l h_16u (by decide) (by decide)) ⟨by decide, by decide⟩ (fun c_17 => ?_) (fun c_17 => ?_)
      · refine g_aload_n (n := 118) hx 1 (dq tX5_readSign 56 rfl) rfl rfl ?_
        refine g_dup (n := 119) hx (dq tX5_readSign 57 rfl) rfl rfl ?_
        refine g_getI (n := 122) hx glX5_20 (sX5_1 (by decide)) (dq tX5_readSign 58 rfl) rfl (fun h_18l h_18u => ?_)
        refine g_iconst (n := 123) hx (dq tX5_readSign 59 rfl) rfl ?_
        refine g_iadd (n := 124) hx (dq tX5_readSign 60 rfl) rfl ?_
        refine g_putI (n := 127) hx plX5_20 (sX5_1 (by decide)) (dq tX5_readSign 61 rfl) rfl (by omega) (by omega) (fun M_19 m_20e m_20 => ?_)
        refine g_aload_n (n := 128) hx 1 (dq tX5_readSign 62 rfl) rfl rfl ?_
        refine g_getR (n := 131) hx glX5_9 (sX5_0 (by decide)) (dq tX5_readSign 63 rfl) rfl ?_
        refine g_callVv (n := 134) (As := []) (rest := []) hx (ctX7_pass Γ M_19 ) mlX5_39 (obX7 (by decide)) (dq tX5_readSign 64 rfl) rfl (Nat.le_of_ble_eq_true rfl) (Nat.le_of_ble_eq_true rfl) (Nat.le_of_ble_eq_true rfl) rfl (fun M_22 p_24 => ?_)
        have f_25 := p_24
        refine g_iload_n (n := 135) hx 0 (dq tX5_readSign 65 rfl) rfl rfl ?_
        exact g_iret hx hr (dq tX5_readSign 66 rfl) ⟨by omega, by omega⟩ (fun u_ v_ huv_ => ((f_25 u_ v_ (by omega)).trans (m_20 u_ v_ (by omega))))
      · refine g_aload_n (n := 98) hx 1 (dq tX5_readSign 44 rfl) rfl rfl ?_
        refine g_getR (n := 101) hx glX5_9 (sX5_0 (by decide)) (dq tX5_readSign 45 rfl) rfl ?_
        refine g_iload_n (n := 102) hx 0 (dq tX5_readSign 46 rfl) rfl rfl ?_
        refine g_iconst (n := 103) hx (dq tX5_readSign 47 rfl) rfl ?_
        refine g_icmp_ne (n := 106) (t := 110) hx (dq tX5_readSign 48 rfl) (by decide) rfl ⟨by omega, by omega⟩ ⟨by decide, by decide⟩ (fun c_26 => ?_) (fun c_26 => ?_)
        · refine g_iconst (n := 111) hx (dq tX5_readSign 51 rfl) rfl ?_
          refine g_callVi (n := 114) (As := [vI 3]) (rest := []) hx (ctX7_fails Γ M 3 (by decide) (by decide)) mlX5_35 (obX7 (by decide)) (dq tX5_readSign 52 rfl) rfl (Nat.le_of_ble_eq_true rfl) (Nat.le_of_ble_eq_true rfl) (Nat.le_of_ble_eq_true rfl) rfl (fun z_27 M_28 h_29 p_30 => ?_)
          obtain ⟨f_31, h_32, h_33⟩ := p_30
          refine g_pop (n := 115) hx (dq tX5_readSign 53 rfl) rfl rfl ?_
          refine g_iconst (n := 116) hx (dq tX5_readSign 54 rfl) rfl ?_
          exact g_iret hx hr (dq tX5_readSign 55 rfl) ⟨by decide, by decide⟩ (fun u_ v_ huv_ => (f_31 u_ v_ (by omega)))
        · omega
  refine g_icmp_ne (n := 14) (t := 35) hx (dq tX5_readSign 6 rfl) (by decide) rfl (zrI h_1l h_1u (by decide) (by decide)) ⟨by decide, by decide⟩ (fun c_2 => ?_) (fun c_2 => ?_)
  · refine g_aload_n (n := 36) hx 1 (dq tX5_readSign 16 rfl) rfl rfl ?_
    refine g_getR (n := 39) hx glX5_9 (sX5_0 (by decide)) (dq tX5_readSign 17 rfl) rfl ?_
    refine g_getI (n := 42) hx glX5_67 (sX7_4 (by decide)) (dq tX5_readSign 18 rfl) rfl (fun h_34l h_34u => ?_)
    refine g_bipush (n := 44) hx (dq tX5_readSign 19 rfl) rfl (by decide) ?_
    refine g_icmp_ne (n := 47) (t := 68) hx (dq tX5_readSign 20 rfl) (by decide) rfl (zrI h_34l h_34u (by decide) (by decide)) ⟨by decide, by decide⟩ (fun c_35 => ?_) (fun c_35 => ?_)
    · refine g_aload_n (n := 69) hx 1 (dq tX5_readSign 30 rfl) rfl rfl ?_
      refine g_getR (n := 72) hx glX5_9 (sX5_0 (by decide)) (dq tX5_readSign 31 rfl) rfl ?_
      refine g_getI (n := 75) hx glX5_67 (sX7_4 (by decide)) (dq tX5_readSign 32 rfl) rfl (fun h_36l h_36u => ?_)
      refine g_bipush (n := 77) hx (dq tX5_readSign 33 rfl) rfl (by decide) ?_
      refine g_icmp_ne (n := 80) (t := 83) hx (dq tX5_readSign 34 rfl) (by decide) rfl (zrI h_36l h_36u (by decide) (by decide)) ⟨by decide, by decide⟩ (fun c_37 => ?_) (fun c_37 => ?_)
      · exact J_4 (-1) (by omega) (by omega)
      · refine g_bipush (n := 82) hx (dq tX5_readSign 35 rfl) rfl (by decide) ?_
        refine g_istore_n (n := 83) (lv' := [(1, vI 23), (0, aR Γ 18)]) hx (dq tX5_readSign 36 rfl) (by decide) rfl rfl ?_
        exact J_4 23 (by omega) (by omega)
    · refine g_aload_n (n := 48) hx 1 (dq tX5_readSign 21 rfl) rfl rfl ?_
      refine g_getR (n := 51) hx glX5_9 (sX5_0 (by decide)) (dq tX5_readSign 22 rfl) rfl ?_
      refine g_callVi (n := 54) (As := []) (rest := []) hx (ctX7_isLong Γ M ) mlX5_83 (obX7 (by decide)) (dq tX5_readSign 23 rfl) rfl (Nat.le_of_ble_eq_true rfl) (Nat.le_of_ble_eq_true rfl) (Nat.le_of_ble_eq_true rfl) rfl (fun z_38 M_39 h_40 p_41 => ?_)
      obtain ⟨rfl, b_43⟩ := p_41
      refine g_if_eq (n := 57) (t := 62) hx (dq tX5_readSign 24 rfl) (by decide) rfl h_40 (fun c_44 => ?_) (fun c_44 => ?_)
      · clear b_43
        refine g_bipush (n := 64) hx (dq tX5_readSign 27 rfl) rfl (by decide) ?_
        refine g_istore_n (n := 65) (lv' := [(1, vI 25), (0, aR Γ 18)]) hx (dq tX5_readSign 28 rfl) (by decide) rfl rfl ?_
        refine g_goto (n := 83) hx (dq tX5_readSign 29 rfl) (by decide) ?_
        exact J_4 25 (by omega) (by omega)
      · have b_43 := b_43.resolve_left c_44
        obtain ⟨-⟩ := b_43
        refine g_bipush (n := 59) hx (dq tX5_readSign 25 rfl) rfl (by decide) ?_
        refine g_goto (n := 64) hx (dq tX5_readSign 26 rfl) (by decide) ?_
        refine g_istore_n (n := 65) (lv' := [(1, vI 24), (0, aR Γ 18)]) hx (dq tX5_readSign 28 rfl) (by decide) rfl rfl ?_
        refine g_goto (n := 83) hx (dq tX5_readSign 29 rfl) (by decide) ?_
        exact J_4 24 (by omega) (by omega)
  · refine g_aload_n (n := 15) hx 1 (dq tX5_readSign 7 rfl) rfl rfl ?_
    refine g_getR (n := 18) hx glX5_9 (sX5_0 (by decide)) (dq tX5_readSign 8 rfl) rfl ?_
    refine g_callVi (n := 21) (As := []) (rest := []) hx (ctX7_isLong Γ M ) mlX5_83 (obX7 (by decide)) (dq tX5_readSign 9 rfl) rfl (Nat.le_of_ble_eq_true rfl) (Nat.le_of_ble_eq_true rfl) (Nat.le_of_ble_eq_true rfl) rfl (fun z_45 M_46 h_47 p_48 => ?_)
    obtain ⟨rfl, b_50⟩ := p_48
    refine g_if_eq (n := 24) (t := 29) hx (dq tX5_readSign 10 rfl) (by decide) rfl h_47 (fun c_51 => ?_) (fun c_51 => ?_)
    · clear b_50
      refine g_bipush (n := 31) hx (dq tX5_readSign 13 rfl) rfl (by decide) ?_
      refine g_istore_n (n := 32) (lv' := [(1, vI 21), (0, aR Γ 18)]) hx (dq tX5_readSign 14 rfl) (by decide) rfl rfl ?_
      refine g_goto (n := 83) hx (dq tX5_readSign 15 rfl) (by decide) ?_
      exact J_4 21 (by omega) (by omega)
    · have b_50 := b_50.resolve_left c_51
      obtain ⟨-⟩ := b_50
      refine g_bipush (n := 26) hx (dq tX5_readSign 11 rfl) rfl (by decide) ?_
      refine g_goto (n := 31) hx (dq tX5_readSign 12 rfl) (by decide) ?_
      refine g_istore_n (n := 32) (lv' := [(1, vI 22), (0, aR Γ 18)]) hx (dq tX5_readSign 14 rfl) (by decide) rfl rfl ?_
      refine g_goto (n := 83) hx (dq tX5_readSign 15 rfl) (by decide) ?_
      exact J_4 22 (by omega) (by omega)

abbrev qctX5_readsValue (M : zM) (g : Nat) (z : Int) (M' : zM) : Prop := (∀ u_ v_, (u_ ≠ 7 ∨ v_ ≠ 2) ∧ (u_ ≠ 7 ∨ v_ ≠ 3) ∧ (u_ ≠ 7 ∨ v_ ≠ 4) ∧ (u_ ≠ 7 ∨ v_ ≠ 5) ∧ (u_ ≠ 18 ∨ v_ ≠ 1) ∧ (u_ ≠ g ∨ v_ ≠ 1) ∧ (u_ ≠ g ∨ v_ ≠ 2) ∧ (u_ ≠ g ∨ v_ ≠ 3) ∧ u_ ≠ g + 1 → M' u_ v_ = M u_ v_) ∧ (z = 0 ∨ (z = 1))
set_option maxHeartbeats 4000000 in
set_option maxRecDepth 100000 in
theorem ctX5_readsValue (Γ : Gam) (M : zM) (g : Nat) (hg : isX4 g)  : CtI Γ yX5_readsValue cX5_readsValue 4 (some .boolean) 5 110 [aR Γ 18, aR Γ g] M (qctX5_readsValue M g) := by
  refine met_i (by decide) (Nat.le_of_ble_eq_true rfl) (fun x hx hr => ?_)
  show G Γ x 4 (QI Γ x (qctX5_readsValue M g)) M 0 [(0, aR Γ 18), (1, aR Γ g)] []
  refine g_aload_n (n := 1) hx 0 (dq tX5_readsValue 0 rfl) rfl rfl ?_
  refine g_getR (n := 4) hx glX5_9 (sX5_0 (by decide)) (dq tX5_readsValue 1 rfl) rfl ?_
  refine g_callVi (n := 7) (As := []) (rest := []) hx (ctX7_isNumber Γ M ) mlX5_90 (obX7 (by decide)) (dq tX5_readsValue 2 rfl) rfl (Nat.le_of_ble_eq_true rfl) (Nat.le_of_ble_eq_true rfl) (Nat.le_of_ble_eq_true rfl) rfl (fun z_1 M_2 h_3 p_4 => ?_)
  obtain ⟨rfl, b_6⟩ := p_4
  refine g_if_eq (n := 10) (t := 39) hx (dq tX5_readsValue 3 rfl) (by decide) rfl h_3 (fun c_7 => ?_) (fun c_7 => ?_)
  · clear b_6
    refine g_aload_n (n := 40) hx 0 (dq tX5_readsValue 21 rfl) rfl rfl ?_
    refine g_getR (n := 43) hx glX5_9 (sX5_0 (by decide)) (dq tX5_readsValue 22 rfl) rfl ?_
    refine g_ldcS (n := 45) (q := 31) hx rfl rfl rfl (dq tX5_readsValue 23 rfl) rfl ?_
    refine g_callVi (n := 48) (As := [sR Γ 31]) (rest := []) hx (ctX7_wordIn Γ M 31 _ rfl (by decide)) mlX5_31 (obX7 (by decide)) (dq tX5_readsValue 24 rfl) rfl (Nat.le_of_ble_eq_true rfl) (Nat.le_of_ble_eq_true rfl) (Nat.le_of_ble_eq_true rfl) rfl (fun z_8 M_9 h_10 p_11 => ?_)
    obtain rfl := p_11
    refine g_istore_n (n := 49) (lv' := [(2, vI z_8), (0, aR Γ 18), (1, aR Γ g)]) hx (dq tX5_readsValue 25 rfl) (by decide) rfl rfl ?_
    refine g_iload_n (n := 50) hx 0 (dq tX5_readsValue 26 rfl) rfl rfl ?_
    refine g_iconst (n := 51) hx (dq tX5_readsValue 27 rfl) rfl ?_
    refine g_icmp_ne (n := 54) (t := 63) hx (dq tX5_readsValue 28 rfl) (by decide) rfl h_10 ⟨by decide, by decide⟩ (fun c_13 => ?_) (fun c_13 => ?_)
    · refine g_aload_n (n := 64) hx 1 (dq tX5_readsValue 34 rfl) rfl rfl ?_
      refine g_getI (n := 67) hx glX5_20 (sX5_1 (by decide)) (dq tX5_readsValue 35 rfl) rfl (fun h_14l h_14u => ?_)
      refine g_bipush (n := 69) hx (dq tX5_readsValue 36 rfl) rfl (by decide) ?_
      refine g_icmp_lt (n := 72) (t := 81) hx (dq tX5_readsValue 37 rfl) (by decide) rfl (zrI h_14l h_14u (by decide) (by decide)) ⟨by decide, by decide⟩ (fun c_15 => ?_) (fun c_15 => ?_)
      · refine g_aload_n (n := 82) hx 1 (dq tX5_readsValue 43 rfl) rfl rfl ?_
        refine g_dup (n := 83) hx (dq tX5_readsValue 44 rfl) rfl rfl ?_
        refine g_getI (n := 86) hx glX5_20 (sX5_1 (by decide)) (dq tX5_readsValue 45 rfl) rfl (fun h_16l h_16u => ?_)
        refine g_iconst (n := 87) hx (dq tX5_readsValue 46 rfl) rfl ?_
        refine g_iadd (n := 88) hx (dq tX5_readsValue 47 rfl) rfl ?_
        refine g_putI (n := 91) hx plX5_20 (sX5_1 (by decide)) (dq tX5_readsValue 48 rfl) rfl (by omega) (by omega) (fun M_17 m_18e m_18 => ?_)
        refine g_aload_n (n := 92) hx 1 (dq tX5_readsValue 49 rfl) rfl rfl ?_
        refine g_getR (n := 95) hx glX5_9 (sX5_0 (by decide)) (dq tX5_readsValue 50 rfl) rfl ?_
        refine g_callVv (n := 98) (As := []) (rest := []) hx (ctX7_pass Γ M_17 ) mlX5_39 (obX7 (by decide)) (dq tX5_readsValue 51 rfl) rfl (Nat.le_of_ble_eq_true rfl) (Nat.le_of_ble_eq_true rfl) (Nat.le_of_ble_eq_true rfl) rfl (fun M_20 p_22 => ?_)
        have f_23 := p_22
        refine g_aload_n (n := 99) hx 2 (dq tX5_readsValue 52 rfl) rfl rfl ?_
        refine g_iload_n (n := 100) hx 0 (dq tX5_readsValue 53 rfl) rfl rfl ?_
        refine g_callVv (n := 103) (As := [vI z_8]) (rest := []) hx (ctX4_write Γ M_20 g hg z_8 (by omega) (by omega)) mlX5_60 (obX4 hg) (dq tX5_readsValue 54 rfl) rfl (Nat.le_of_ble_eq_true rfl) (Nat.le_of_ble_eq_true rfl) (Nat.le_of_ble_eq_true rfl) rfl (fun M_25 p_27 => ?_)
        have f_28 := p_27
        refine g_iconst (n := 104) hx (dq tX5_readsValue 55 rfl) rfl ?_
        exact g_zret hx hr (dq tX5_readsValue 56 rfl) (by omega) ⟨(fun u_ v_ huv_ => (((f_28 u_ v_ (by omega)).trans (f_23 u_ v_ (by omega))).trans (m_18 u_ v_ (by omega)))), (by omega)⟩
      · refine g_aload_n (n := 73) hx 1 (dq tX5_readsValue 38 rfl) rfl rfl ?_
        refine g_getR (n := 76) hx glX5_9 (sX5_0 (by decide)) (dq tX5_readsValue 39 rfl) rfl ?_
        refine g_iconst (n := 77) hx (dq tX5_readsValue 40 rfl) rfl ?_
        refine g_callVi (n := 80) (As := [vI 3]) (rest := []) hx (ctX7_fails Γ M 3 (by decide) (by decide)) mlX5_35 (obX7 (by decide)) (dq tX5_readsValue 41 rfl) rfl (Nat.le_of_ble_eq_true rfl) (Nat.le_of_ble_eq_true rfl) (Nat.le_of_ble_eq_true rfl) rfl (fun z_29 M_30 h_31 p_32 => ?_)
        obtain ⟨f_33, h_34, h_35⟩ := p_32
        exact g_zret hx hr (dq tX5_readsValue 42 rfl) (by omega) ⟨(fun u_ v_ huv_ => (f_33 u_ v_ (by omega))), (by omega)⟩
    · refine g_aload_n (n := 55) hx 1 (dq tX5_readsValue 29 rfl) rfl rfl ?_
      refine g_getR (n := 58) hx glX5_9 (sX5_0 (by decide)) (dq tX5_readsValue 30 rfl) rfl ?_
      refine g_iconst (n := 59) hx (dq tX5_readsValue 31 rfl) rfl ?_
      refine g_callVi (n := 62) (As := [vI 0]) (rest := []) hx (ctX7_fails Γ M 0 (by decide) (by decide)) mlX5_35 (obX7 (by decide)) (dq tX5_readsValue 32 rfl) rfl (Nat.le_of_ble_eq_true rfl) (Nat.le_of_ble_eq_true rfl) (Nat.le_of_ble_eq_true rfl) rfl (fun z_36 M_37 h_38 p_39 => ?_)
      obtain ⟨f_40, h_41, h_42⟩ := p_39
      exact g_zret hx hr (dq tX5_readsValue 33 rfl) (by omega) ⟨(fun u_ v_ huv_ => (f_40 u_ v_ (by omega))), (by omega)⟩
  · have b_6 := b_6.resolve_left c_7
    obtain ⟨-⟩ := b_6
    refine g_aload_n (n := 11) hx 0 (dq tX5_readsValue 4 rfl) rfl rfl ?_
    refine g_getR (n := 14) hx glX5_9 (sX5_0 (by decide)) (dq tX5_readsValue 5 rfl) rfl ?_
    refine g_callVi (n := 17) (As := []) (rest := []) hx (ctX7_number Γ M ) mlX5_93 (obX7 (by decide)) (dq tX5_readsValue 6 rfl) rfl (Nat.le_of_ble_eq_true rfl) (Nat.le_of_ble_eq_true rfl) (Nat.le_of_ble_eq_true rfl) rfl (fun z_43 M_44 h_45 p_46 => ?_)
    obtain rfl := p_46
    refine g_istore_n (n := 18) (lv' := [(3, vI z_43), (0, aR Γ 18), (1, aR Γ g)]) hx (dq tX5_readsValue 7 rfl) (by decide) rfl rfl ?_
    refine g_iload_n (n := 19) hx 0 (dq tX5_readsValue 8 rfl) rfl rfl ?_
    refine g_iconst (n := 20) hx (dq tX5_readsValue 9 rfl) rfl ?_
    refine g_icmp_ne (n := 23) (t := 32) hx (dq tX5_readsValue 10 rfl) (by decide) rfl h_45 ⟨by decide, by decide⟩ (fun c_48 => ?_) (fun c_48 => ?_)
    · refine g_iconst (n := 33) hx (dq tX5_readsValue 16 rfl) rfl ?_
      refine g_iload_n (n := 34) hx 0 (dq tX5_readsValue 17 rfl) rfl rfl ?_
      refine g_isub (n := 35) hx (dq tX5_readsValue 18 rfl) rfl ?_
      refine g_istore_n (n := 36) (lv' := [(2, vI ((-1) - z_43)), (3, vI z_43), (0, aR Γ 18), (1, aR Γ g)]) hx (dq tX5_readsValue 19 rfl) (by decide) rfl rfl ?_
      refine g_goto (n := 63) hx (dq tX5_readsValue 20 rfl) (by decide) ?_
      refine g_aload_n (n := 64) hx 2 (dq tX5_readsValue 34 rfl) rfl rfl ?_
      refine g_getI (n := 67) hx glX5_20 (sX5_1 (by decide)) (dq tX5_readsValue 35 rfl) rfl (fun h_49l h_49u => ?_)
      refine g_bipush (n := 69) hx (dq tX5_readsValue 36 rfl) rfl (by decide) ?_
      refine g_icmp_lt (n := 72) (t := 81) hx (dq tX5_readsValue 37 rfl) (by decide) rfl (zrI h_49l h_49u (by decide) (by decide)) ⟨by decide, by decide⟩ (fun c_50 => ?_) (fun c_50 => ?_)
      · refine g_aload_n (n := 82) hx 2 (dq tX5_readsValue 43 rfl) rfl rfl ?_
        refine g_dup (n := 83) hx (dq tX5_readsValue 44 rfl) rfl rfl ?_
        refine g_getI (n := 86) hx glX5_20 (sX5_1 (by decide)) (dq tX5_readsValue 45 rfl) rfl (fun h_51l h_51u => ?_)
        refine g_iconst (n := 87) hx (dq tX5_readsValue 46 rfl) rfl ?_
        refine g_iadd (n := 88) hx (dq tX5_readsValue 47 rfl) rfl ?_
        refine g_putI (n := 91) hx plX5_20 (sX5_1 (by decide)) (dq tX5_readsValue 48 rfl) rfl (by omega) (by omega) (fun M_52 m_53e m_53 => ?_)
        refine g_aload_n (n := 92) hx 2 (dq tX5_readsValue 49 rfl) rfl rfl ?_
        refine g_getR (n := 95) hx glX5_9 (sX5_0 (by decide)) (dq tX5_readsValue 50 rfl) rfl ?_
        refine g_callVv (n := 98) (As := []) (rest := []) hx (ctX7_pass Γ M_52 ) mlX5_39 (obX7 (by decide)) (dq tX5_readsValue 51 rfl) rfl (Nat.le_of_ble_eq_true rfl) (Nat.le_of_ble_eq_true rfl) (Nat.le_of_ble_eq_true rfl) rfl (fun M_55 p_57 => ?_)
        have f_58 := p_57
        refine g_aload_n (n := 99) hx 3 (dq tX5_readsValue 52 rfl) rfl rfl ?_
        refine g_iload_n (n := 100) hx 0 (dq tX5_readsValue 53 rfl) rfl rfl ?_
        refine g_callVv (n := 103) (As := [vI ((-1) - z_43)]) (rest := []) hx (ctX4_write Γ M_55 g hg ((-1) - z_43) (by omega) (by omega)) mlX5_60 (obX4 hg) (dq tX5_readsValue 54 rfl) rfl (Nat.le_of_ble_eq_true rfl) (Nat.le_of_ble_eq_true rfl) (Nat.le_of_ble_eq_true rfl) rfl (fun M_60 p_62 => ?_)
        have f_63 := p_62
        refine g_iconst (n := 104) hx (dq tX5_readsValue 55 rfl) rfl ?_
        exact g_zret hx hr (dq tX5_readsValue 56 rfl) (by omega) ⟨(fun u_ v_ huv_ => (((f_63 u_ v_ (by omega)).trans (f_58 u_ v_ (by omega))).trans (m_53 u_ v_ (by omega)))), (by omega)⟩
      · refine g_aload_n (n := 73) hx 2 (dq tX5_readsValue 38 rfl) rfl rfl ?_
        refine g_getR (n := 76) hx glX5_9 (sX5_0 (by decide)) (dq tX5_readsValue 39 rfl) rfl ?_
        refine g_iconst (n := 77) hx (dq tX5_readsValue 40 rfl) rfl ?_
        refine g_callVi (n := 80) (As := [vI 3]) (rest := []) hx (ctX7_fails Γ M 3 (by decide) (by decide)) mlX5_35 (obX7 (by decide)) (dq tX5_readsValue 41 rfl) rfl (Nat.le_of_ble_eq_true rfl) (Nat.le_of_ble_eq_true rfl) (Nat.le_of_ble_eq_true rfl) rfl (fun z_64 M_65 h_66 p_67 => ?_)
        obtain ⟨f_68, h_69, h_70⟩ := p_67
        exact g_zret hx hr (dq tX5_readsValue 42 rfl) (by omega) ⟨(fun u_ v_ huv_ => (f_68 u_ v_ (by omega))), (by omega)⟩
    · refine g_aload_n (n := 24) hx 1 (dq tX5_readsValue 11 rfl) rfl rfl ?_
      refine g_getR (n := 27) hx glX5_9 (sX5_0 (by decide)) (dq tX5_readsValue 12 rfl) rfl ?_
      refine g_iconst (n := 28) hx (dq tX5_readsValue 13 rfl) rfl ?_
      refine g_callVi (n := 31) (As := [vI 1]) (rest := []) hx (ctX7_fails Γ M 1 (by decide) (by decide)) mlX5_35 (obX7 (by decide)) (dq tX5_readsValue 14 rfl) rfl (Nat.le_of_ble_eq_true rfl) (Nat.le_of_ble_eq_true rfl) (Nat.le_of_ble_eq_true rfl) rfl (fun z_71 M_72 h_73 p_74 => ?_)
      obtain ⟨f_75, h_76, h_77⟩ := p_74
      exact g_zret hx hr (dq tX5_readsValue 15 rfl) (by omega) ⟨(fun u_ v_ huv_ => (f_75 u_ v_ (by omega))), (by omega)⟩

abbrev qctX5_readsSum (M : zM) (g : Nat) (z : Int) (M' : zM) : Prop := (∀ u_ v_, (u_ ≠ 7 ∨ v_ ≠ 2) ∧ (u_ ≠ 7 ∨ v_ ≠ 3) ∧ (u_ ≠ 7 ∨ v_ ≠ 4) ∧ (u_ ≠ 7 ∨ v_ ≠ 5) ∧ (u_ ≠ 18 ∨ v_ ≠ 1) ∧ (u_ ≠ g ∨ v_ ≠ 1) ∧ (u_ ≠ g ∨ v_ ≠ 2) ∧ (u_ ≠ g ∨ v_ ≠ 3) ∧ u_ ≠ g + 1 → M' u_ v_ = M u_ v_) ∧ (z = 0 ∨ (z = 1))
set_option maxHeartbeats 4000000 in
set_option maxRecDepth 100000 in
theorem ctX5_readsSum (Γ : Gam) (M : zM) (g : Nat) (hg : isX4 g)  : CtI Γ yX5_readsSum cX5_readsSum 5 (some .boolean) 6 133 [aR Γ 18, aR Γ g] M (qctX5_readsSum M g) := by
  refine met_i (by decide) (Nat.le_of_ble_eq_true rfl) (fun x hx hr => ?_)
  show G Γ x 5 (QI Γ x (qctX5_readsSum M g)) M 0 [(0, aR Γ 18), (1, aR Γ g)] []
  refine g_iconst (n := 1) hx (dq tX5_readsSum 0 rfl) rfl ?_
  refine g_istore_n (n := 2) (lv' := [(2, vI (-1)), (0, aR Γ 18), (1, aR Γ g)]) hx (dq tX5_readsSum 1 rfl) (by decide) rfl rfl ?_
  refine g_iconst (n := 3) hx (dq tX5_readsSum 2 rfl) rfl ?_
  refine g_istore_n (n := 4) (lv' := [(3, vI (-1)), (2, vI (-1)), (0, aR Γ 18), (1, aR Γ g)]) hx (dq tX5_readsSum 3 rfl) (by decide) rfl rfl ?_
  refine g_iconst (n := 5) hx (dq tX5_readsSum 4 rfl) rfl ?_
  refine g_istore (n := 7) (lv' := [(4, vI 0), (3, vI (-1)), (2, vI (-1)), (0, aR Γ 18), (1, aR Γ g)]) hx (dq tX5_readsSum 5 rfl) (by decide) rfl rfl ?_
  have L_5 : ∀ (n_ : Nat) (i_1 : Int) (i_2 : Int) (i_3 : Int) (M_4 : zM), (0 ≤ i_1) → (i_1 ≤ 61) → ((-1) ≤ i_2) → (i_2 ≤ 17) → ((-1) ≤ i_3) → (i_3 ≤ 20) → (∀ u_ v_, (u_ ≠ 7 ∨ v_ ≠ 2) ∧ (u_ ≠ 7 ∨ v_ ≠ 3) ∧ (u_ ≠ 7 ∨ v_ ≠ 4) ∧ (u_ ≠ g ∨ v_ ≠ 1) ∧ (u_ ≠ g ∨ v_ ≠ 2) ∧ (u_ ≠ g ∨ v_ ≠ 3) ∧ u_ ≠ g + 1 ∧ (u_ ≠ 7 ∨ v_ ≠ 5) ∧ (u_ ≠ 18 ∨ v_ ≠ 1) → M_4 u_ v_ = M u_ v_) → ((61 - i_1).toNat = n_) → G Γ x 5 (QI Γ x (qctX5_readsSum M g)) M_4 7 [(4, vI i_1), (3, vI i_2), (2, vI i_3), (0, aR Γ 18), (1, aR Γ g)] [] := by
    intro n_
    induction n_ using Nat.strongRecOn with
    | _ n_ ih_6 =>
      intro i_1 i_2 i_3 M_4 h_9 h_10 h_11 h_12 h_13 h_14 f_7 hm_8
      refine g_iload (n := 9) hx 0 (dq tX5_readsSum 6 rfl) rfl rfl ?_
      refine g_bipush (n := 11) hx (dq tX5_readsSum 7 rfl) rfl (by decide) ?_
      refine g_icmp_ge (n := 14) (t := 158) hx (dq tX5_readsSum 8 rfl) (by decide) rfl ⟨by omega, by omega⟩ ⟨by decide, by decide⟩ (fun c_15 => ?_) (fun c_15 => ?_)
      · refine g_aload_n (n := 159) hx 3 (dq tX5_readsSum 79 rfl) rfl rfl ?_
        refine g_getR (n := 162) hx glX5_9 (sX5_0 (by decide)) (dq tX5_readsSum 80 rfl) rfl ?_
        refine g_iconst (n := 163) hx (dq tX5_readsSum 81 rfl) rfl ?_
        refine g_callVi (n := 166) (As := [vI 0]) (rest := []) hx (ctX7_fails Γ M_4 0 (by decide) (by decide)) mlX5_35 (obX7 (by decide)) (dq tX5_readsSum 82 rfl) rfl (Nat.le_of_ble_eq_true rfl) (Nat.le_of_ble_eq_true rfl) (Nat.le_of_ble_eq_true rfl) rfl (fun z_16 M_17 h_18 p_19 => ?_)
        obtain ⟨f_20, h_21, h_22⟩ := p_19
        exact g_zret hx hr (dq tX5_readsSum 83 rfl) (by omega) ⟨(fun u_ v_ huv_ => ((f_20 u_ v_ (by omega)).trans (f_7 u_ v_ (by omega)))), (by omega)⟩
      · refine g_aload_n (n := 15) hx 3 (dq tX5_readsSum 9 rfl) rfl rfl ?_
        refine g_aload_n (n := 16) hx 4 (dq tX5_readsSum 10 rfl) rfl rfl ?_
        refine g_callVi (n := 19) (As := [aR Γ g]) (rest := []) hx (ctX5_readsValue Γ M_4 g hg) mlX5_87 (obX5 (by decide)) (dq tX5_readsSum 11 rfl) rfl (Nat.le_of_ble_eq_true rfl) (Nat.le_of_ble_eq_true rfl) (Nat.le_of_ble_eq_true rfl) rfl (fun z_23 M_24 h_25 p_26 => ?_)
        obtain ⟨f_27, b_28⟩ := p_26
        refine g_if_ne (n := 22) (t := 24) hx (dq tX5_readsSum 12 rfl) (by decide) rfl h_25 (fun c_29 => ?_) (fun c_29 => ?_)
        · have b_28 := b_28.resolve_left c_29
          obtain ⟨-⟩ := b_28
          refine g_iload_n (n := 25) hx 2 (dq tX5_readsSum 15 rfl) rfl rfl ?_
          refine g_iconst (n := 26) hx (dq tX5_readsSum 16 rfl) rfl ?_
          have J_33 : ∀ (M_31 : zM),  (∀ u_ v_, (u_ ≠ g ∨ v_ ≠ 1) ∧ (u_ ≠ g ∨ v_ ≠ 2) ∧ (u_ ≠ g ∨ v_ ≠ 3) ∧ u_ ≠ g + 1 → M_31 u_ v_ = M_24 u_ v_) → G Γ x 5 (QI Γ x (qctX5_readsSum M g)) M_31 34 [(4, vI i_1), (3, vI i_2), (2, vI i_3), (0, aR Γ 18), (1, aR Γ g)] [] := by
            intro M_31 f_32
            refine g_aload_n (n := 35) hx 3 (dq tX5_readsSum 21 rfl) rfl rfl ?_
            refine g_getR (n := 38) hx glX5_9 (sX5_0 (by decide)) (dq tX5_readsSum 22 rfl) rfl ?_
            refine g_getI (n := 41) hx glX5_67 (sX7_4 (by decide)) (dq tX5_readsSum 23 rfl) rfl (fun h_34l h_34u => ?_)
            refine g_bipush (n := 43) hx (dq tX5_readsSum 24 rfl) rfl (by decide) ?_
            have J_37 : ∀ (j_36 : Int),  ((-1) ≤ j_36) → (j_36 ≤ 20) → G Γ x 5 (QI Γ x (qctX5_readsSum M g)) M_31 86 [(4, vI i_1), (3, vI i_2), (2, vI i_3), (0, aR Γ 18), (1, aR Γ g)] [vI j_36] := by
              intro j_36 h_38 h_39
              refine g_istore_n (n := 87) (lv' := [(2, vI j_36), (4, vI i_1), (3, vI i_2), (0, aR Γ 18), (1, aR Γ g)]) hx (dq tX5_readsSum 43 rfl) (by decide) rfl rfl ?_
              refine g_iload_n (n := 88) hx 0 (dq tX5_readsSum 44 rfl) rfl rfl ?_
              refine g_iconst (n := 89) hx (dq tX5_readsSum 45 rfl) rfl ?_
              refine g_icmp_ne (n := 92) (t := 145) hx (dq tX5_readsSum 46 rfl) (by decide) rfl ⟨by omega, by omega⟩ ⟨by decide, by decide⟩ (fun c_40 => ?_) (fun c_40 => ?_)
              · refine g_aload_n (n := 146) hx 3 (dq tX5_readsSum 74 rfl) rfl rfl ?_
                refine g_getR (n := 149) hx glX5_9 (sX5_0 (by decide)) (dq tX5_readsSum 75 rfl) rfl ?_
                refine g_callVv (n := 152) (As := []) (rest := []) hx (ctX7_pass Γ M_31 ) mlX5_39 (obX7 (by decide)) (dq tX5_readsSum 76 rfl) rfl (Nat.le_of_ble_eq_true rfl) (Nat.le_of_ble_eq_true rfl) (Nat.le_of_ble_eq_true rfl) rfl (fun M_42 p_44 => ?_)
                have f_45 := p_44
                refine g_iinc (n := 155) (lv' := [(4, vI (i_1 + 1)), (2, vI j_36), (3, vI i_2), (0, aR Γ 18), (1, aR Γ g)]) hx 1 (dq tX5_readsSum 77 rfl) rfl (by decide) rfl rfl ?_
                refine g_goto (n := 7) hx (dq tX5_readsSum 78 rfl) (by decide) ?_
                refine g_lv [0, 2, 1, 3, 4] rfl ?_
                exact ih_6 _ (by omega) (i_1 + 1) i_2 j_36 M_42 (by omega) (by omega) (by omega) (by omega) (by omega) (by omega) (fun u_ v_ huv_ => ((((f_45 u_ v_ (by omega)).trans (f_32 u_ v_ (by omega))).trans (f_27 u_ v_ (by omega))).trans (f_7 u_ v_ (by omega)))) rfl
              · refine g_iload_n (n := 93) hx 2 (dq tX5_readsSum 47 rfl) rfl rfl ?_
                refine g_iconst (n := 94) hx (dq tX5_readsSum 48 rfl) rfl ?_
                have J_49 : ∀ (M_47 : zM),  (∀ u_ v_, (u_ ≠ g ∨ v_ ≠ 1) ∧ (u_ ≠ g ∨ v_ ≠ 2) ∧ (u_ ≠ g ∨ v_ ≠ 3) ∧ u_ ≠ g + 1 → M_47 u_ v_ = M_31 u_ v_) → G Γ x 5 (QI Γ x (qctX5_readsSum M g)) M_47 102 [(2, vI j_36), (4, vI i_1), (3, vI i_2), (0, aR Γ 18), (1, aR Γ g)] [] := by
                  intro M_47 f_48
                  refine g_aload_n (n := 103) hx 3 (dq tX5_readsSum 53 rfl) rfl rfl ?_
                  refine g_getR (n := 106) hx glX5_9 (sX5_0 (by decide)) (dq tX5_readsSum 54 rfl) rfl ?_
                  refine g_getI (n := 109) hx glX5_67 (sX7_4 (by decide)) (dq tX5_readsSum 55 rfl) rfl (fun h_50l h_50u => ?_)
                  have e_51 : M_47 7 4 = M_31 7 4 := (f_48 7 4 (by omega))
                  refine g_bipush (n := 111) hx (dq tX5_readsSum 56 rfl) rfl (by decide) ?_
                  refine g_icmp_ne (n := 114) (t := 119) hx (dq tX5_readsSum 57 rfl) (by decide) rfl (zrI h_50l h_50u (by decide) (by decide)) ⟨by decide, by decide⟩ (fun c_52 => ?_) (fun c_52 => ?_)
                  · refine g_aload_n (n := 120) hx 3 (dq tX5_readsSum 60 rfl) rfl rfl ?_
                    refine g_getR (n := 123) hx glX5_9 (sX5_0 (by decide)) (dq tX5_readsSum 61 rfl) rfl ?_
                    refine g_getI (n := 126) hx glX5_67 (sX7_4 (by decide)) (dq tX5_readsSum 62 rfl) rfl (fun h_53l h_53u => ?_)
                    refine g_bipush (n := 128) hx (dq tX5_readsSum 63 rfl) rfl (by decide) ?_
                    refine g_icmp_ne (n := 131) (t := 136) hx (dq tX5_readsSum 64 rfl) (by decide) rfl (zrI h_53l h_53u (by decide) (by decide)) ⟨by decide, by decide⟩ (fun c_54 => ?_) (fun c_54 => ?_)
                    · refine g_iconst (n := 137) hx (dq tX5_readsSum 67 rfl) rfl ?_
                      refine g_istore_n (n := 138) (lv' := [(3, vI (-1)), (2, vI j_36), (4, vI i_1), (0, aR Γ 18), (1, aR Γ g)]) hx (dq tX5_readsSum 68 rfl) (by decide) rfl rfl ?_
                      refine g_iload_n (n := 139) hx 0 (dq tX5_readsSum 69 rfl) rfl rfl ?_
                      refine g_iconst (n := 140) hx (dq tX5_readsSum 70 rfl) rfl ?_
                      refine g_icmp_ne (n := 143) (t := 145) hx (dq tX5_readsSum 71 rfl) (by decide) rfl ⟨by decide, by decide⟩ ⟨by decide, by decide⟩ (fun c_55 => ?_) (fun c_55 => ?_)
                      · omega
                      · refine g_iconst (n := 144) hx (dq tX5_readsSum 72 rfl) rfl ?_
                        exact g_zret hx hr (dq tX5_readsSum 73 rfl) (by omega) ⟨(fun u_ v_ huv_ => ((((f_48 u_ v_ (by omega)).trans (f_32 u_ v_ (by omega))).trans (f_27 u_ v_ (by omega))).trans (f_7 u_ v_ (by omega)))), (by omega)⟩
                    · refine g_bipush (n := 133) hx (dq tX5_readsSum 65 rfl) rfl (by decide) ?_
                      refine g_goto (n := 137) hx (dq tX5_readsSum 66 rfl) (by decide) ?_
                      refine g_istore_n (n := 138) (lv' := [(3, vI 17), (2, vI j_36), (4, vI i_1), (0, aR Γ 18), (1, aR Γ g)]) hx (dq tX5_readsSum 68 rfl) (by decide) rfl rfl ?_
                      refine g_iload_n (n := 139) hx 0 (dq tX5_readsSum 69 rfl) rfl rfl ?_
                      refine g_iconst (n := 140) hx (dq tX5_readsSum 70 rfl) rfl ?_
                      refine g_icmp_ne (n := 143) (t := 145) hx (dq tX5_readsSum 71 rfl) (by decide) rfl ⟨by decide, by decide⟩ ⟨by decide, by decide⟩ (fun c_56 => ?_) (fun c_56 => ?_)
                      · refine g_aload_n (n := 146) hx 3 (dq tX5_readsSum 74 rfl) rfl rfl ?_
                        refine g_getR (n := 149) hx glX5_9 (sX5_0 (by decide)) (dq tX5_readsSum 75 rfl) rfl ?_
                        refine g_callVv (n := 152) (As := []) (rest := []) hx (ctX7_pass Γ M_47 ) mlX5_39 (obX7 (by decide)) (dq tX5_readsSum 76 rfl) rfl (Nat.le_of_ble_eq_true rfl) (Nat.le_of_ble_eq_true rfl) (Nat.le_of_ble_eq_true rfl) rfl (fun M_58 p_60 => ?_)
                        have f_61 := p_60
                        refine g_iinc (n := 155) (lv' := [(4, vI (i_1 + 1)), (3, vI 17), (2, vI j_36), (0, aR Γ 18), (1, aR Γ g)]) hx 2 (dq tX5_readsSum 77 rfl) rfl (by decide) rfl rfl ?_
                        refine g_goto (n := 7) hx (dq tX5_readsSum 78 rfl) (by decide) ?_
                        exact ih_6 _ (by omega) (i_1 + 1) 17 j_36 M_58 (by omega) (by omega) (by omega) (by omega) (by omega) (by omega) (fun u_ v_ huv_ => (((((f_61 u_ v_ (by omega)).trans (f_48 u_ v_ (by omega))).trans (f_32 u_ v_ (by omega))).trans (f_27 u_ v_ (by omega))).trans (f_7 u_ v_ (by omega)))) rfl
                      · omega
                  · refine g_bipush (n := 116) hx (dq tX5_readsSum 58 rfl) rfl (by decide) ?_
                    refine g_goto (n := 137) hx (dq tX5_readsSum 59 rfl) (by decide) ?_
                    refine g_istore_n (n := 138) (lv' := [(3, vI 16), (2, vI j_36), (4, vI i_1), (0, aR Γ 18), (1, aR Γ g)]) hx (dq tX5_readsSum 68 rfl) (by decide) rfl rfl ?_
                    refine g_iload_n (n := 139) hx 0 (dq tX5_readsSum 69 rfl) rfl rfl ?_
                    refine g_iconst (n := 140) hx (dq tX5_readsSum 70 rfl) rfl ?_
                    refine g_icmp_ne (n := 143) (t := 145) hx (dq tX5_readsSum 71 rfl) (by decide) rfl ⟨by decide, by decide⟩ ⟨by decide, by decide⟩ (fun c_62 => ?_) (fun c_62 => ?_)
                    · refine g_aload_n (n := 146) hx 3 (dq tX5_readsSum 74 rfl) rfl rfl ?_
                      refine g_getR (n := 149) hx glX5_9 (sX5_0 (by decide)) (dq tX5_readsSum 75 rfl) rfl ?_
                      refine g_callVv (n := 152) (As := []) (rest := []) hx (ctX7_pass Γ M_47 ) mlX5_39 (obX7 (by decide)) (dq tX5_readsSum 76 rfl) rfl (Nat.le_of_ble_eq_true rfl) (Nat.le_of_ble_eq_true rfl) (Nat.le_of_ble_eq_true rfl) rfl (fun M_64 p_66 => ?_)
                      have f_67 := p_66
                      refine g_iinc (n := 155) (lv' := [(4, vI (i_1 + 1)), (3, vI 16), (2, vI j_36), (0, aR Γ 18), (1, aR Γ g)]) hx 2 (dq tX5_readsSum 77 rfl) rfl (by decide) rfl rfl ?_
                      refine g_goto (n := 7) hx (dq tX5_readsSum 78 rfl) (by decide) ?_
                      exact ih_6 _ (by omega) (i_1 + 1) 16 j_36 M_64 (by omega) (by omega) (by omega) (by omega) (by omega) (by omega) (fun u_ v_ huv_ => (((((f_67 u_ v_ (by omega)).trans (f_48 u_ v_ (by omega))).trans (f_32 u_ v_ (by omega))).trans (f_27 u_ v_ (by omega))).trans (f_7 u_ v_ (by omega)))) rfl
                    · omega
                refine g_icmp_eq (n := 97) (t := 102) hx (dq tX5_readsSum 49 rfl) (by decide) rfl ⟨by omega, by omega⟩ ⟨by decide, by decide⟩ (fun c_46 => ?_) (fun c_46 => ?_)
                · exact J_49 M_31 (fun _ _ _ => rfl)
                · refine g_aload_n (n := 98) hx 4 (dq tX5_readsSum 50 rfl) rfl rfl ?_
                  refine g_iload_n (n := 99) hx 2 (dq tX5_readsSum 51 rfl) rfl rfl ?_
                  refine g_callVv (n := 102) (As := [vI i_2]) (rest := []) hx (ctX4_write Γ M_31 g hg i_2 (by omega) (by omega)) mlX5_60 (obX4 hg) (dq tX5_readsSum 52 rfl) rfl (Nat.le_of_ble_eq_true rfl) (Nat.le_of_ble_eq_true rfl) (Nat.le_of_ble_eq_true rfl) rfl (fun M_69 p_71 => ?_)
                  have f_72 := p_71
                  exact J_49 M_69 (fun u_ v_ huv_ => (f_72 u_ v_ (by omega)))
            refine g_icmp_ne (n := 46) (t := 51) hx (dq tX5_readsSum 25 rfl) (by decide) rfl (zrI h_34l h_34u (by decide) (by decide)) ⟨by decide, by decide⟩ (fun c_35 => ?_) (fun c_35 => ?_)
            · refine g_aload_n (n := 52) hx 3 (dq tX5_readsSum 28 rfl) rfl rfl ?_
              refine g_getR (n := 55) hx glX5_9 (sX5_0 (by decide)) (dq tX5_readsSum 29 rfl) rfl ?_
              refine g_getI (n := 58) hx glX5_67 (sX7_4 (by decide)) (dq tX5_readsSum 30 rfl) rfl (fun h_73l h_73u => ?_)
              refine g_bipush (n := 60) hx (dq tX5_readsSum 31 rfl) rfl (by decide) ?_
              refine g_icmp_ne (n := 63) (t := 68) hx (dq tX5_readsSum 32 rfl) (by decide) rfl (zrI h_73l h_73u (by decide) (by decide)) ⟨by decide, by decide⟩ (fun c_74 => ?_) (fun c_74 => ?_)
              · refine g_aload_n (n := 69) hx 3 (dq tX5_readsSum 35 rfl) rfl rfl ?_
                refine g_getR (n := 72) hx glX5_9 (sX5_0 (by decide)) (dq tX5_readsSum 36 rfl) rfl ?_
                refine g_getI (n := 75) hx glX5_67 (sX7_4 (by decide)) (dq tX5_readsSum 37 rfl) rfl (fun h_75l h_75u => ?_)
                refine g_bipush (n := 77) hx (dq tX5_readsSum 38 rfl) rfl (by decide) ?_
                refine g_icmp_ne (n := 80) (t := 85) hx (dq tX5_readsSum 39 rfl) (by decide) rfl (zrI h_75l h_75u (by decide) (by decide)) ⟨by decide, by decide⟩ (fun c_76 => ?_) (fun c_76 => ?_)
                · refine g_iconst (n := 86) hx (dq tX5_readsSum 42 rfl) rfl ?_
                  exact J_37 (-1) (by omega) (by omega)
                · refine g_bipush (n := 82) hx (dq tX5_readsSum 40 rfl) rfl (by decide) ?_
                  refine g_goto (n := 86) hx (dq tX5_readsSum 41 rfl) (by decide) ?_
                  exact J_37 20 (by omega) (by omega)
              · refine g_bipush (n := 65) hx (dq tX5_readsSum 33 rfl) rfl (by decide) ?_
                refine g_goto (n := 86) hx (dq tX5_readsSum 34 rfl) (by decide) ?_
                exact J_37 19 (by omega) (by omega)
            · refine g_bipush (n := 48) hx (dq tX5_readsSum 26 rfl) rfl (by decide) ?_
              refine g_goto (n := 86) hx (dq tX5_readsSum 27 rfl) (by decide) ?_
              exact J_37 18 (by omega) (by omega)
          refine g_icmp_eq (n := 29) (t := 34) hx (dq tX5_readsSum 17 rfl) (by decide) rfl ⟨by omega, by omega⟩ ⟨by decide, by decide⟩ (fun c_30 => ?_) (fun c_30 => ?_)
          · exact J_33 M_24 (fun _ _ _ => rfl)
          · refine g_aload_n (n := 30) hx 4 (dq tX5_readsSum 18 rfl) rfl rfl ?_
            refine g_iload_n (n := 31) hx 2 (dq tX5_readsSum 19 rfl) rfl rfl ?_
            refine g_callVv (n := 34) (As := [vI i_3]) (rest := []) hx (ctX4_write Γ M_24 g hg i_3 (by omega) (by omega)) mlX5_60 (obX4 hg) (dq tX5_readsSum 20 rfl) rfl (Nat.le_of_ble_eq_true rfl) (Nat.le_of_ble_eq_true rfl) (Nat.le_of_ble_eq_true rfl) rfl (fun M_78 p_80 => ?_)
            have f_81 := p_80
            exact J_33 M_78 (fun u_ v_ huv_ => (f_81 u_ v_ (by omega)))
        · clear b_28
          refine g_iconst (n := 23) hx (dq tX5_readsSum 13 rfl) rfl ?_
          exact g_zret hx hr (dq tX5_readsSum 14 rfl) (by omega) ⟨(fun u_ v_ huv_ => ((f_27 u_ v_ (by omega)).trans (f_7 u_ v_ (by omega)))), (by omega)⟩
  exact L_5 _ 0 (-1) (-1) M (by omega) (by omega) (by omega) (by omega) (by omega) (by omega) (fun _ _ _ => rfl) rfl
