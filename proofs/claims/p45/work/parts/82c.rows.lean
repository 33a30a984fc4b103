abbrev qctX9_hasRiver2 (M : zM)  (z : Int) (M' : zM) : Prop := M = M' ∧ 0 ≤ z ∧ z ≤ 1 ∧ ((z = 1 ∧ 0 < M 37 0) ∨ (z = 0 ∧ M 37 0 ≤ 0))
set_option maxHeartbeats 4000000 in
set_option maxRecDepth 100000 in
theorem ctX9_hasRiver2 (Γ : Gam) (M : zM)   : CtI Γ yX9_hasRiver cX9_hasRiver 1 (some .boolean) 0 0 [aR Γ 0] M (qctX9_hasRiver2 M) := by
  refine met_i (by decide) (Nat.le_of_ble_eq_true rfl) (fun x hx hr => ?_)
  show G Γ x 1 (QI Γ x (qctX9_hasRiver2 M)) M 0 [(0, aR Γ 0)] []
  refine g_aload_n (n := 1) hx 0 (dq tX9_hasRiver 0 rfl) rfl rfl ?_
  refine g_getR (n := 4) hx glX9_47 (sX9_5 (by decide)) (dq tX9_hasRiver 1 rfl) rfl ?_
  refine g_getR (n := 7) hx glX9_51 (sX8_0 (by decide)) (dq tX9_hasRiver 2 rfl) rfl ?_
  refine g_getI (n := 10) hx glX9_400 (sX2_0 (by decide)) (dq tX9_hasRiver 3 rfl) rfl (fun h_1l h_1u => ?_)
  refine g_if_le (n := 13) (t := 17) hx (dq tX9_hasRiver 4 rfl) (by decide) rfl (zrI h_1l h_1u (by decide) (by decide)) (fun c_2 => ?_) (fun c_2 => ?_)
  · refine g_iconst (n := 18) hx (dq tX9_hasRiver 7 rfl) rfl ?_
    exact g_zret hx hr (dq tX9_hasRiver 8 rfl) (by omega) ⟨rfl, (by omega), (by omega), (by omega)⟩
  · refine g_iconst (n := 14) hx (dq tX9_hasRiver 5 rfl) rfl ?_
    refine g_goto (n := 18) hx (dq tX9_hasRiver 6 rfl) (by decide) ?_
    exact g_zret hx hr (dq tX9_hasRiver 8 rfl) (by omega) ⟨rfl, (by omega), (by omega), (by omega)⟩

abbrev qctX9_isVillage2 (M : zM) (number : Int) (z : Int) (M' : zM) : Prop := M = M' ∧ 0 ≤ z ∧ z ≤ 1 ∧ ((z = 1 ∧ 0 ≤ number ∧ number ≤ 5 ∧ number < M 37 1) ∨ (z = 0 ∧ (number < 0 ∨ M 37 1 ≤ number)))
set_option maxHeartbeats 4000000 in
set_option maxRecDepth 100000 in
theorem ctX9_isVillage2 (Γ : Gam) (M : zM) (number : Int) (hnumberl : (-2147483648) ≤ number) (hnumberu : number ≤ 2147483647)  : CtI Γ yX9_isVillage cX9_isVillage 2 (some .boolean) 0 0 [aR Γ 0, vI number] M (qctX9_isVillage2 M number) := by
  refine met_i (by decide) (Nat.le_of_ble_eq_true rfl) (fun x hx hr => ?_)
  show G Γ x 2 (QI Γ x (qctX9_isVillage2 M number)) M 0 [(0, aR Γ 0), (1, vI number)] []
  refine g_iload_n (n := 1) hx 1 (dq tX9_isVillage 0 rfl) rfl rfl ?_
  refine g_if_lt (n := 4) (t := 22) hx (dq tX9_isVillage 1 rfl) (by decide) rfl (zrI hnumberl hnumberu (by decide) (by decide)) (fun c_1 => ?_) (fun c_1 => ?_)
  · refine g_iconst (n := 23) hx (dq tX9_isVillage 10 rfl) rfl ?_
    exact g_zret hx hr (dq tX9_isVillage 11 rfl) (by omega) ⟨rfl, (by omega), (by omega), (by omega)⟩
  · refine g_iload_n (n := 5) hx 1 (dq tX9_isVillage 2 rfl) rfl rfl ?_
    refine g_aload_n (n := 6) hx 0 (dq tX9_isVillage 3 rfl) rfl rfl ?_
    refine g_getR (n := 9) hx glX9_47 (sX9_5 (by decide)) (dq tX9_isVillage 4 rfl) rfl ?_
    refine g_getR (n := 12) hx glX9_51 (sX8_0 (by decide)) (dq tX9_isVillage 5 rfl) rfl ?_
    refine g_getI (n := 15) hx glX9_378 (sX2_1 (by decide)) (dq tX9_isVillage 6 rfl) rfl (fun h_2l h_2u => ?_)
    refine g_icmp_ge (n := 18) (t := 22) hx (dq tX9_isVillage 7 rfl) (by decide) rfl (zrI hnumberl hnumberu (by decide) (by decide)) (zrI h_2l h_2u (by decide) (by decide)) (fun c_3 => ?_) (fun c_3 => ?_)
    · refine g_iconst (n := 23) hx (dq tX9_isVillage 10 rfl) rfl ?_
      exact g_zret hx hr (dq tX9_isVillage 11 rfl) (by omega) ⟨rfl, (by omega), (by omega), (by omega)⟩
    · refine g_iconst (n := 19) hx (dq tX9_isVillage 8 rfl) rfl ?_
      refine g_goto (n := 23) hx (dq tX9_isVillage 9 rfl) (by decide) ?_
      exact g_zret hx hr (dq tX9_isVillage 11 rfl) (by omega) ⟨rfl, (by omega), (by omega), (by omega)⟩

abbrev qctX9_isLog2 (M : zM) (number : Int) (z : Int) (M' : zM) : Prop := M = M' ∧ 0 ≤ z ∧ z ≤ 1 ∧ ((z = 1 ∧ 0 ≤ number ∧ number ≤ 11 ∧ number < M 37 3) ∨ (z = 0 ∧ (number < 0 ∨ M 37 3 ≤ number)))
set_option maxHeartbeats 4000000 in
set_option maxRecDepth 100000 in
theorem ctX9_isLog2 (Γ : Gam) (M : zM) (number : Int) (hnumberl : (-2147483648) ≤ number) (hnumberu : number ≤ 2147483647)  : CtI Γ yX9_isLog cX9_isLog 2 (some .boolean) 0 0 [aR Γ 0, vI number] M (qctX9_isLog2 M number) := by
  refine met_i (by decide) (Nat.le_of_ble_eq_true rfl) (fun x hx hr => ?_)
  show G Γ x 2 (QI Γ x (qctX9_isLog2 M number)) M 0 [(0, aR Γ 0), (1, vI number)] []
  refine g_iload_n (n := 1) hx 1 (dq tX9_isLog 0 rfl) rfl rfl ?_
  refine g_if_lt (n := 4) (t := 22) hx (dq tX9_isLog 1 rfl) (by decide) rfl (zrI hnumberl hnumberu (by decide) (by decide)) (fun c_1 => ?_) (fun c_1 => ?_)
  · refine g_iconst (n := 23) hx (dq tX9_isLog 10 rfl) rfl ?_
    exact g_zret hx hr (dq tX9_isLog 11 rfl) (by omega) ⟨rfl, (by omega), (by omega), (by omega)⟩
  · refine g_iload_n (n := 5) hx 1 (dq tX9_isLog 2 rfl) rfl rfl ?_
    refine g_aload_n (n := 6) hx 0 (dq tX9_isLog 3 rfl) rfl rfl ?_
    refine g_getR (n := 9) hx glX9_47 (sX9_5 (by decide)) (dq tX9_isLog 4 rfl) rfl ?_
    refine g_getR (n := 12) hx glX9_51 (sX8_0 (by decide)) (dq tX9_isLog 5 rfl) rfl ?_
    refine g_getI (n := 15) hx glX9_117 (sX2_3 (by decide)) (dq tX9_isLog 6 rfl) rfl (fun h_2l h_2u => ?_)
    refine g_icmp_ge (n := 18) (t := 22) hx (dq tX9_isLog 7 rfl) (by decide) rfl (zrI hnumberl hnumberu (by decide) (by decide)) (zrI h_2l h_2u (by decide) (by decide)) (fun c_3 => ?_) (fun c_3 => ?_)
    · refine g_iconst (n := 23) hx (dq tX9_isLog 10 rfl) rfl ?_
      exact g_zret hx hr (dq tX9_isLog 11 rfl) (by omega) ⟨rfl, (by omega), (by omega), (by omega)⟩
    · refine g_iconst (n := 19) hx (dq tX9_isLog 8 rfl) rfl ?_
      refine g_goto (n := 23) hx (dq tX9_isLog 9 rfl) (by decide) ?_
      exact g_zret hx hr (dq tX9_isLog 11 rfl) (by omega) ⟨rfl, (by omega), (by omega), (by omega)⟩

abbrev qctX9_isRule2 (M : zM) (number : Int) (z : Int) (M' : zM) : Prop := M = M' ∧ 0 ≤ z ∧ z ≤ 1 ∧ ((z = 1 ∧ 0 ≤ number ∧ number ≤ 5 ∧ number < M 0 4) ∨ (z = 0 ∧ (number < 0 ∨ M 0 4 ≤ number)))
set_option maxHeartbeats 4000000 in
set_option maxRecDepth 100000 in
theorem ctX9_isRule2 (Γ : Gam) (M : zM) (number : Int) (hnumberl : (-2147483648) ≤ number) (hnumberu : number ≤ 2147483647)  : CtI Γ yX9_isRule cX9_isRule 2 (some .boolean) 0 0 [aR Γ 0, vI number] M (qctX9_isRule2 M number) := by
  refine met_i (by decide) (Nat.le_of_ble_eq_true rfl) (fun x hx hr => ?_)
  show G Γ x 2 (QI Γ x (qctX9_isRule2 M number)) M 0 [(0, aR Γ 0), (1, vI number)] []
  refine g_iload_n (n := 1) hx 1 (dq tX9_isRule 0 rfl) rfl rfl ?_
  refine g_if_lt (n := 4) (t := 16) hx (dq tX9_isRule 1 rfl) (by decide) rfl (zrI hnumberl hnumberu (by decide) (by decide)) (fun c_1 => ?_) (fun c_1 => ?_)
  · refine g_iconst (n := 17) hx (dq tX9_isRule 8 rfl) rfl ?_
    exact g_zret hx hr (dq tX9_isRule 9 rfl) (by omega) ⟨rfl, (by omega), (by omega), (by omega)⟩
  · refine g_iload_n (n := 5) hx 1 (dq tX9_isRule 2 rfl) rfl rfl ?_
    refine g_aload_n (n := 6) hx 0 (dq tX9_isRule 3 rfl) rfl rfl ?_
    refine g_getI (n := 9) hx glX9_120 (sX9_4 (by decide)) (dq tX9_isRule 4 rfl) rfl (fun h_2l h_2u => ?_)
    refine g_icmp_ge (n := 12) (t := 16) hx (dq tX9_isRule 5 rfl) (by decide) rfl (zrI hnumberl hnumberu (by decide) (by decide)) (zrI h_2l h_2u (by decide) (by decide)) (fun c_3 => ?_) (fun c_3 => ?_)
    · refine g_iconst (n := 17) hx (dq tX9_isRule 8 rfl) rfl ?_
      exact g_zret hx hr (dq tX9_isRule 9 rfl) (by omega) ⟨rfl, (by omega), (by omega), (by omega)⟩
    · refine g_iconst (n := 13) hx (dq tX9_isRule 6 rfl) rfl ?_
      refine g_goto (n := 17) hx (dq tX9_isRule 7 rfl) (by decide) ?_
      exact g_zret hx hr (dq tX9_isRule 9 rfl) (by omega) ⟨rfl, (by omega), (by omega), (by omega)⟩

abbrev qctX9_isRuleOrNone2 (M : zM) (number : Int) (z : Int) (M' : zM) : Prop := M = M' ∧ 0 ≤ z ∧ z ≤ 1 ∧ ((z = 1 ∧ -1 ≤ number ∧ number ≤ 5 ∧ number < M 0 4) ∨ (z = 0 ∧ (number < -1 ∨ M 0 4 ≤ number)))
set_option maxHeartbeats 4000000 in
set_option maxRecDepth 100000 in
theorem ctX9_isRuleOrNone2 (Γ : Gam) (M : zM) (number : Int) (hnumberl : (-2147483648) ≤ number) (hnumberu : number ≤ 2147483647)  : CtI Γ yX9_isRuleOrNone cX9_isRuleOrNone 2 (some .boolean) 1 21 [aR Γ 0, vI number] M (qctX9_isRuleOrNone2 M number) := by
  refine met_i (by decide) (Nat.le_of_ble_eq_true rfl) (fun x hx hr => ?_)
  show G Γ x 2 (QI Γ x (qctX9_isRuleOrNone2 M number)) M 0 [(0, aR Γ 0), (1, vI number)] []
  refine g_iv (fun hI0 => ?_)
  have hI_n : (0 : Int) ≤ M 0 4 ∧ M 0 4 ≤ 6 := hI0 0 4
  clear hI0
  refine g_iload_n (n := 1) hx 1 (dq tX9_isRuleOrNone 0 rfl) rfl rfl ?_
  refine g_iconst (n := 2) hx (dq tX9_isRuleOrNone 1 rfl) rfl ?_
  refine g_icmp_eq (n := 5) (t := 13) hx (dq tX9_isRuleOrNone 2 rfl) (by decide) rfl (zrI hnumberl hnumberu (by decide) (by decide)) ⟨by decide, by decide⟩ (fun c_1 => ?_) (fun c_1 => ?_)
  · refine g_iconst (n := 14) hx (dq tX9_isRuleOrNone 7 rfl) rfl ?_
    refine g_goto (n := 18) hx (dq tX9_isRuleOrNone 8 rfl) (by decide) ?_
    exact g_zret hx hr (dq tX9_isRuleOrNone 10 rfl) (by omega) ⟨rfl, (by omega), (by omega), (by omega)⟩
  · refine g_aload_n (n := 6) hx 0 (dq tX9_isRuleOrNone 3 rfl) rfl rfl ?_
    refine g_iload_n (n := 7) hx 1 (dq tX9_isRuleOrNone 4 rfl) rfl rfl ?_
    refine g_callVi (n := 10) (As := [vI number]) (rest := []) hx (ctX9_isRule2 Γ M number (by omega) (by omega)) mlX9_142 (obX9 (by decide)) (dq tX9_isRuleOrNone 5 rfl) rfl (Nat.le_of_ble_eq_true rfl) (Nat.le_of_ble_eq_true rfl) (Nat.le_of_ble_eq_true rfl) rfl (fun z_2 M_3 h_4 p_5 => ?_)
    obtain ⟨rfl, h_7, h_8, h_9⟩ := p_5
    refine g_if_eq (n := 13) (t := 17) hx (dq tX9_isRuleOrNone 6 rfl) (by decide) rfl h_4 (fun c_10 => ?_) (fun c_10 => ?_)
    · refine g_iconst (n := 18) hx (dq tX9_isRuleOrNone 9 rfl) rfl ?_
      exact g_zret hx hr (dq tX9_isRuleOrNone 10 rfl) (by omega) ⟨rfl, (by omega), (by omega), (by omega)⟩
    · refine g_iconst (n := 14) hx (dq tX9_isRuleOrNone 7 rfl) rfl ?_
      refine g_goto (n := 18) hx (dq tX9_isRuleOrNone 8 rfl) (by decide) ?_
      exact g_zret hx hr (dq tX9_isRuleOrNone 10 rfl) (by omega) ⟨rfl, (by omega), (by omega), (by omega)⟩

abbrev qctX9_force2 (M : zM) (rule : Int) (z : Int) (M' : zM) : Prop := (∀ u_ v_, (u_ ≠ 45 + 1 ∨ v_ ≠ 2) → M' u_ v_ = M u_ v_) ∧ Gd M' 37 (45 + 1) ∧ ((0 < M 37 0 ∧ -1 ≤ rule ∧ rule < M 0 4 ∧ z = M (45 + 1) 2 ∧ M' (45 + 1) 2 = rule) ∨ (¬ (0 < M 37 0 ∧ -1 ≤ rule ∧ rule < M 0 4) ∧ z = -2 ∧ M' (45 + 1) 2 = M (45 + 1) 2))
set_option maxHeartbeats 4000000 in
set_option maxRecDepth 100000 in
theorem ctX9_force2 (Γ : Gam) (M : zM) (rule : Int) (hrulel : (-2147483648) ≤ rule) (hruleu : rule ≤ 2147483647) (gd0 : Gd M 37 (45 + 1)) : CtI Γ yX9_force cX9_force 3 (some .int) 2 42 [aR Γ 0, vI rule] M (qctX9_force2 M rule) := by
  refine met_i (by decide) (Nat.le_of_ble_eq_true rfl) (fun x hx hr => ?_)
  show G Γ x 3 (QI Γ x (qctX9_force2 M rule)) M 0 [(0, aR Γ 0), (1, vI rule)] []
  refine g_aload_n (n := 1) hx 0 (dq tX9_force 0 rfl) rfl rfl ?_
  refine g_callVi (n := 4) (As := []) (rest := []) hx (ctX9_hasRiver2 Γ M ) mlX9_126 (obX9 (by decide)) (dq tX9_force 1 rfl) rfl (Nat.le_of_ble_eq_true rfl) (Nat.le_of_ble_eq_true rfl) (Nat.le_of_ble_eq_true rfl) rfl (fun z_1 M_2 h_3 p_4 => ?_)
  obtain ⟨rfl, h_6, h_7, h_8⟩ := p_4
  refine g_if_eq (n := 7) (t := 15) hx (dq tX9_force 2 rfl) (by decide) rfl h_3 (fun c_9 => ?_) (fun c_9 => ?_)
  · refine g_bipush (n := 17) hx (dq tX9_force 7 rfl) rfl (by decide) ?_
    exact g_iret hx hr (dq tX9_force 8 rfl) ⟨by decide, by decide⟩ ⟨(fun _ _ _ => rfl), gd0, (by omega)⟩
  · refine g_aload_n (n := 8) hx 0 (dq tX9_force 3 rfl) rfl rfl ?_
    refine g_iload_n (n := 9) hx 1 (dq tX9_force 4 rfl) rfl rfl ?_
    refine g_callVi (n := 12) (As := [vI rule]) (rest := []) hx (ctX9_isRuleOrNone2 Γ M rule (by omega) (by omega)) mlX9_129 (obX9 (by decide)) (dq tX9_force 5 rfl) rfl (Nat.le_of_ble_eq_true rfl) (Nat.le_of_ble_eq_true rfl) (Nat.le_of_ble_eq_true rfl) rfl (fun z_10 M_11 h_12 p_13 => ?_)
    obtain ⟨rfl, h_15, h_16, h_17⟩ := p_13
    refine g_if_ne (n := 15) (t := 18) hx (dq tX9_force 6 rfl) (by decide) rfl h_12 (fun c_18 => ?_) (fun c_18 => ?_)
    · refine g_aload_n (n := 19) hx 0 (dq tX9_force 9 rfl) rfl rfl ?_
      refine g_getR (n := 22) hx glX9_47 (sX9_5 (by decide)) (dq tX9_force 10 rfl) rfl ?_
      refine g_getR (n := 25) hx glX9_100 (sX8_1 (by decide)) (dq tX9_force 11 rfl) rfl ?_
      refine g_getI (n := 28) hx glX9_133 (sX6_2 (iX8_1 (by decide))) (dq tX9_force 12 rfl) rfl (fun h_19l h_19u => ?_)
      refine g_istore_n (n := 29) (lv' := [(2, vI (M (45 + 1) 2)), (0, aR Γ 0), (1, vI rule)]) hx (dq tX9_force 13 rfl) (by decide) rfl rfl ?_
      refine g_aload_n (n := 30) hx 1 (dq tX9_force 14 rfl) rfl rfl ?_
      refine g_getR (n := 33) hx glX9_47 (sX9_5 (by decide)) (dq tX9_force 15 rfl) rfl ?_
      refine g_getR (n := 36) hx glX9_100 (sX8_1 (by decide)) (dq tX9_force 16 rfl) rfl ?_
      refine g_iload_n (n := 37) hx 2 (dq tX9_force 17 rfl) rfl rfl ?_
      refine g_putI (n := 40) hx plX9_133 (sX6_2 (iX8_1 (by decide))) (dq tX9_force 18 rfl) rfl (by omega) (by omega) (fun M_20 m_21e m_21 => ?_)
      have g_22 : Gd M_20 37 (45 + 1) := Gd.frame gd0 (fun c j hcj => m_21 c j (by omega))
      refine g_iload_n (n := 41) hx 0 (dq tX9_force 19 rfl) rfl rfl ?_
      have e_23 : M_20 37 1 = M 37 1 := (m_21 37 1 (by omega))
      have e_24 : M_20 37 3 = M 37 3 := (m_21 37 3 (by omega))
      exact g_iret hx hr (dq tX9_force 20 rfl) (zrI h_19l h_19u (by decide) (by decide)) ⟨(fun u_ v_ huv_ => (m_21 u_ v_ (by omega))), g_22, (by omega)⟩
    · refine g_bipush (n := 17) hx (dq tX9_force 7 rfl) rfl (by decide) ?_
      exact g_iret hx hr (dq tX9_force 8 rfl) ⟨by decide, by decide⟩ ⟨(fun _ _ _ => rfl), gd0, (by omega)⟩

abbrev qctX9_bind2 (M : zM) (village : Int) (rule : Int) (z : Int) (M' : zM) : Prop := (∀ u_ v_, u_ ≠ 45 + 2 → M' u_ v_ = M u_ v_) ∧ Gd M' 37 (45 + 1) ∧ ((0 ≤ village ∧ village < M 37 1 ∧ -1 ≤ rule ∧ rule < M 0 4 ∧ z = M (45 + 1 + 1) village.toNat ∧ M' (45 + 1 + 1) village.toNat = rule) ∨ (¬ (0 ≤ village ∧ village < M 37 1 ∧ -1 ≤ rule ∧ rule < M 0 4) ∧ z = -2 ∧ M' (45 + 1 + 1) village.toNat = M (45 + 1 + 1) village.toNat)) ∧ (∀ j : Nat, j ≠ village.toNat → M' (45 + 1 + 1) j = M (45 + 1 + 1) j)
set_option maxHeartbeats 4000000 in
set_option maxRecDepth 100000 in
theorem ctX9_bind2 (Γ : Gam) (M : zM) (village : Int) (hvillagel : (-2147483648) ≤ village) (hvillageu : village ≤ 2147483647) (rule : Int) (hrulel : (-2147483648) ≤ rule) (hruleu : rule ≤ 2147483647) (gd0 : Gd M 37 (45 + 1)) : CtI Γ yX9_bind cX9_bind 4 (some .int) 2 42 [aR Γ 0, vI village, vI rule] M (qctX9_bind2 M village rule) := by
  refine met_i (by decide) (Nat.le_of_ble_eq_true rfl) (fun x hx hr => ?_)
  show G Γ x 4 (QI Γ x (qctX9_bind2 M village rule)) M 0 [(0, aR Γ 0), (1, vI village), (2, vI rule)] []
  refine g_aload_n (n := 1) hx 0 (dq tX9_bind 0 rfl) rfl rfl ?_
  refine g_iload_n (n := 2) hx 1 (dq tX9_bind 1 rfl) rfl rfl ?_
  refine g_callVi (n := 5) (As := [vI village]) (rest := []) hx (ctX9_isVillage2 Γ M village (by omega) (by omega)) mlX9_136 (obX9 (by decide)) (dq tX9_bind 2 rfl) rfl (Nat.le_of_ble_eq_true rfl) (Nat.le_of_ble_eq_true rfl) (Nat.le_of_ble_eq_true rfl) rfl (fun z_1 M_2 h_3 p_4 => ?_)
  obtain ⟨rfl, h_6, h_7, h_8⟩ := p_4
  refine g_if_eq (n := 8) (t := 16) hx (dq tX9_bind 3 rfl) (by decide) rfl h_3 (fun c_9 => ?_) (fun c_9 => ?_)
  · refine g_bipush (n := 18) hx (dq tX9_bind 8 rfl) rfl (by decide) ?_
    exact g_iret hx hr (dq tX9_bind 9 rfl) ⟨by decide, by decide⟩ ⟨(fun _ _ _ => rfl), gd0, (by omega), (fun _ _ => rfl)⟩
  · refine g_aload_n (n := 9) hx 0 (dq tX9_bind 4 rfl) rfl rfl ?_
    refine g_iload_n (n := 10) hx 2 (dq tX9_bind 5 rfl) rfl rfl ?_
    refine g_callVi (n := 13) (As := [vI rule]) (rest := []) hx (ctX9_isRuleOrNone2 Γ M rule (by omega) (by omega)) mlX9_129 (obX9 (by decide)) (dq tX9_bind 6 rfl) rfl (Nat.le_of_ble_eq_true rfl) (Nat.le_of_ble_eq_true rfl) (Nat.le_of_ble_eq_true rfl) rfl (fun z_10 M_11 h_12 p_13 => ?_)
    obtain ⟨rfl, h_15, h_16, h_17⟩ := p_13
    refine g_if_ne (n := 16) (t := 19) hx (dq tX9_bind 7 rfl) (by decide) rfl h_12 (fun c_18 => ?_) (fun c_18 => ?_)
    · refine g_aload_n (n := 20) hx 0 (dq tX9_bind 10 rfl) rfl rfl ?_
      refine g_getR (n := 23) hx glX9_47 (sX9_5 (by decide)) (dq tX9_bind 11 rfl) rfl ?_
      refine g_getR (n := 26) hx glX9_100 (sX8_1 (by decide)) (dq tX9_bind 12 rfl) rfl ?_
      refine g_getR (n := 29) hx glX9_139 (sX6_6 (iX8_1 (by decide))) (dq tX9_bind 13 rfl) rfl ?_
      refine g_iload_n (n := 30) hx 1 (dq tX9_bind 14 rfl) rfl rfl ?_
      refine g_iald (n := 31) (q := village.toNat) hx (aX6_6 (b := 45 + 1) (iX8_1 (by decide))) (dq tX9_bind 15 rfl) rfl (by omega) (by omega) (by omega) rfl (fun h_19l h_19u => ?_)
      refine g_istore_n (n := 32) (lv' := [(3, vI (M (45 + 1 + 1) village.toNat)), (0, aR Γ 0), (1, vI village), (2, vI rule)]) hx (dq tX9_bind 16 rfl) (by decide) rfl rfl ?_
      refine g_aload_n (n := 33) hx 1 (dq tX9_bind 17 rfl) rfl rfl ?_
      refine g_getR (n := 36) hx glX9_47 (sX9_5 (by decide)) (dq tX9_bind 18 rfl) rfl ?_
      refine g_getR (n := 39) hx glX9_100 (sX8_1 (by decide)) (dq tX9_bind 19 rfl) rfl ?_
      refine g_getR (n := 42) hx glX9_139 (sX6_6 (iX8_1 (by decide))) (dq tX9_bind 20 rfl) rfl ?_
      refine g_iload_n (n := 43) hx 2 (dq tX9_bind 21 rfl) rfl rfl ?_
      refine g_iload_n (n := 44) hx 3 (dq tX9_bind 22 rfl) rfl rfl ?_
      refine g_iast (n := 45) (q := village.toNat) hx (aX6_6 (b := 45 + 1) (iX8_1 (by decide))) (dq tX9_bind 23 rfl) rfl (by omega) (by omega) (by omega) rfl (by omega) (by omega) (fun M_20 m_21e m_21 => ?_)
      have g_22 : Gd M_20 37 (45 + 1) := Gd.frame gd0 (fun c j hcj => m_21 c j (by omega))
      refine g_iload_n (n := 46) hx 0 (dq tX9_bind 24 rfl) rfl rfl ?_
      have e_23 : M_20 37 1 = M 37 1 := (m_21 37 1 (by omega))
      have e_24 : M_20 37 3 = M 37 3 := (m_21 37 3 (by omega))
      exact g_iret hx hr (dq tX9_bind 25 rfl) (zrI h_19l h_19u (by decide) (by decide)) ⟨(fun u_ v_ huv_ => (m_21 u_ v_ (by omega))), g_22, (by omega), (fun j hj => (m_21 (45 + 1 + 1) j (by omega)))⟩
    · refine g_bipush (n := 18) hx (dq tX9_bind 8 rfl) rfl (by decide) ?_
      exact g_iret hx hr (dq tX9_bind 9 rfl) ⟨by decide, by decide⟩ ⟨(fun _ _ _ => rfl), gd0, (by omega), (fun _ _ => rfl)⟩

abbrev qctX9_law2 (M : zM) (law : Int) (rule : Int) (z : Int) (M' : zM) : Prop := (∀ u_ v_, (u_ ≠ 45 + 1 ∨ v_ ≠ 3) ∧ (u_ ≠ 45 + 1 ∨ v_ ≠ 4) → M' u_ v_ = M u_ v_) ∧ Gd M' 37 (45 + 1) ∧ ((0 < M 37 0 ∧ 0 ≤ law ∧ law ≤ 3 ∧ (law = 3 → (0 ≤ rule ∧ rule < M 0 4)) ∧ z = M (45 + 1) 3 ∧ M' (45 + 1) 3 = law) ∨ (¬ (0 < M 37 0 ∧ 0 ≤ law ∧ law ≤ 3 ∧ (law = 3 → (0 ≤ rule ∧ rule < M 0 4))) ∧ z = -2 ∧ M' (45 + 1) 3 = M (45 + 1) 3))
set_option maxHeartbeats 4000000 in
set_option maxRecDepth 100000 in
theorem ctX9_law2 (Γ : Gam) (M : zM) (law : Int) (hlawl : (-2147483648) ≤ law) (hlawu : law ≤ 2147483647) (rule : Int) (hrulel : (-2147483648) ≤ rule) (hruleu : rule ≤ 2147483647) (gd0 : Gd M 37 (45 + 1)) : CtI Γ yX9_law cX9_law 4 (some .int) 1 21 [aR Γ 0, vI law, vI rule] M (qctX9_law2 M law rule) := by
  refine met_i (by decide) (Nat.le_of_ble_eq_true rfl) (fun x hx hr => ?_)
  show G Γ x 4 (QI Γ x (qctX9_law2 M law rule)) M 0 [(0, aR Γ 0), (1, vI law), (2, vI rule)] []
  refine g_aload_n (n := 1) hx 0 (dq tX9_law 0 rfl) rfl rfl ?_
  refine g_callVi (n := 4) (As := []) (rest := []) hx (ctX9_hasRiver2 Γ M ) mlX9_126 (obX9 (by decide)) (dq tX9_law 1 rfl) rfl (Nat.le_of_ble_eq_true rfl) (Nat.le_of_ble_eq_true rfl) (Nat.le_of_ble_eq_true rfl) rfl (fun z_1 M_2 h_3 p_4 => ?_)
  obtain ⟨rfl, h_6, h_7, h_8⟩ := p_4
  refine g_if_eq (n := 7) (t := 16) hx (dq tX9_law 2 rfl) (by decide) rfl h_3 (fun c_9 => ?_) (fun c_9 => ?_)
  · refine g_bipush (n := 18) hx (dq tX9_law 8 rfl) rfl (by decide) ?_
    exact g_iret hx hr (dq tX9_law 9 rfl) ⟨by decide, by decide⟩ ⟨(fun _ _ _ => rfl), gd0, (by omega)⟩
  · refine g_iload_n (n := 8) hx 1 (dq tX9_law 3 rfl) rfl rfl ?_
    refine g_if_lt (n := 11) (t := 16) hx (dq tX9_law 4 rfl) (by decide) rfl (zrI hlawl hlawu (by decide) (by decide)) (fun c_10 => ?_) (fun c_10 => ?_)
    · refine g_bipush (n := 18) hx (dq tX9_law 8 rfl) rfl (by decide) ?_
      exact g_iret hx hr (dq tX9_law 9 rfl) ⟨by decide, by decide⟩ ⟨(fun _ _ _ => rfl), gd0, (by omega)⟩
    · refine g_iload_n (n := 12) hx 1 (dq tX9_law 5 rfl) rfl rfl ?_
      refine g_iconst (n := 13) hx (dq tX9_law 6 rfl) rfl ?_
      refine g_icmp_le (n := 16) (t := 19) hx (dq tX9_law 7 rfl) (by decide) rfl (zrI hlawl hlawu (by decide) (by decide)) ⟨by decide, by decide⟩ (fun c_11 => ?_) (fun c_11 => ?_)
      · refine g_iload_n (n := 20) hx 1 (dq tX9_law 10 rfl) rfl rfl ?_
        refine g_iconst (n := 21) hx (dq tX9_law 11 rfl) rfl ?_
        refine g_icmp_ne (n := 24) (t := 46) hx (dq tX9_law 12 rfl) (by decide) rfl (zrI hlawl hlawu (by decide) (by decide)) ⟨by decide, by decide⟩ (fun c_12 => ?_) (fun c_12 => ?_)
        · refine g_aload_n (n := 47) hx 0 (dq tX9_law 24 rfl) rfl rfl ?_
          refine g_getR (n := 50) hx glX9_47 (sX9_5 (by decide)) (dq tX9_law 25 rfl) rfl ?_
          refine g_getR (n := 53) hx glX9_100 (sX8_1 (by decide)) (dq tX9_law 26 rfl) rfl ?_
          refine g_getI (n := 56) hx glX9_148 (sX6_3 (iX8_1 (by decide))) (dq tX9_law 27 rfl) rfl (fun h_13l h_13u => ?_)
          refine g_istore_n (n := 57) (lv' := [(3, vI (M (45 + 1) 3)), (0, aR Γ 0), (1, vI law), (2, vI rule)]) hx (dq tX9_law 28 rfl) (by decide) rfl rfl ?_
          refine g_aload_n (n := 58) hx 1 (dq tX9_law 29 rfl) rfl rfl ?_
          refine g_getR (n := 61) hx glX9_47 (sX9_5 (by decide)) (dq tX9_law 30 rfl) rfl ?_
          refine g_getR (n := 64) hx glX9_100 (sX8_1 (by decide)) (dq tX9_law 31 rfl) rfl ?_
          refine g_iload_n (n := 65) hx 2 (dq tX9_law 32 rfl) rfl rfl ?_
          refine g_putI (n := 68) hx plX9_148 (sX6_3 (iX8_1 (by decide))) (dq tX9_law 33 rfl) rfl (by omega) (by omega) (fun M_14 m_15e m_15 => ?_)
          have g_16 : Gd M_14 37 (45 + 1) := Gd.frame gd0 (fun c j hcj => m_15 c j (by omega))
          refine g_iload_n (n := 69) hx 0 (dq tX9_law 34 rfl) rfl rfl ?_
          have e_17 : M_14 37 1 = M 37 1 := (m_15 37 1 (by omega))
          have e_18 : M_14 37 3 = M 37 3 := (m_15 37 3 (by omega))
          exact g_iret hx hr (dq tX9_law 35 rfl) (zrI h_13l h_13u (by decide) (by decide)) ⟨(fun u_ v_ huv_ => (m_15 u_ v_ (by omega))), g_16, (by omega)⟩
        · refine g_aload_n (n := 25) hx 0 (dq tX9_law 13 rfl) rfl rfl ?_
          refine g_iload_n (n := 26) hx 2 (dq tX9_law 14 rfl) rfl rfl ?_
          refine g_callVi (n := 29) (As := [vI rule]) (rest := []) hx (ctX9_isRule2 Γ M rule (by omega) (by omega)) mlX9_142 (obX9 (by decide)) (dq tX9_law 15 rfl) rfl (Nat.le_of_ble_eq_true rfl) (Nat.le_of_ble_eq_true rfl) (Nat.le_of_ble_eq_true rfl) rfl (fun z_19 M_20 h_21 p_22 => ?_)
          obtain ⟨rfl, h_24, h_25, h_26⟩ := p_22
          refine g_if_ne (n := 32) (t := 35) hx (dq tX9_law 16 rfl) (by decide) rfl h_21 (fun c_27 => ?_) (fun c_27 => ?_)
          · refine g_aload_n (n := 36) hx 0 (dq tX9_law 19 rfl) rfl rfl ?_
            refine g_getR (n := 39) hx glX9_47 (sX9_5 (by decide)) (dq tX9_law 20 rfl) rfl ?_
            refine g_getR (n := 42) hx glX9_100 (sX8_1 (by decide)) (dq tX9_law 21 rfl) rfl ?_
            refine g_iload_n (n := 43) hx 2 (dq tX9_law 22 rfl) rfl rfl ?_
            refine g_putI (n := 46) hx plX9_145 (sX6_4 (iX8_1 (by decide))) (dq tX9_law 23 rfl) rfl (by omega) (by omega) (fun M_28 m_29e m_29 => ?_)
            have g_30 : Gd M_28 37 (45 + 1) := Gd.frame gd0 (fun c j hcj => m_29 c j (by omega))
            refine g_aload_n (n := 47) hx 0 (dq tX9_law 24 rfl) rfl rfl ?_
            refine g_getR (n := 50) hx glX9_47 (sX9_5 (by decide)) (dq tX9_law 25 rfl) rfl ?_
            refine g_getR (n := 53) hx glX9_100 (sX8_1 (by decide)) (dq tX9_law 26 rfl) rfl ?_
            refine g_getI (n := 56) hx glX9_148 (sX6_3 (iX8_1 (by decide))) (dq tX9_law 27 rfl) rfl (fun h_31l h_31u => ?_)
            have e_32 : M_28 (45 + 1) 3 = M (45 + 1) 3 := (m_29 (45 + 1) 3 (by omega))
            refine g_istore_n (n := 57) (lv' := [(3, vI (M_28 (45 + 1) 3)), (0, aR Γ 0), (1, vI law), (2, vI rule)]) hx (dq tX9_law 28 rfl) (by decide) rfl rfl ?_
            refine g_aload_n (n := 58) hx 1 (dq tX9_law 29 rfl) rfl rfl ?_
            refine g_getR (n := 61) hx glX9_47 (sX9_5 (by decide)) (dq tX9_law 30 rfl) rfl ?_
            refine g_getR (n := 64) hx glX9_100 (sX8_1 (by decide)) (dq tX9_law 31 rfl) rfl ?_
            refine g_iload_n (n := 65) hx 2 (dq tX9_law 32 rfl) rfl rfl ?_
            have e_33 : M_28 37 1 = M 37 1 := (m_29 37 1 (by omega))
            have e_34 : M_28 37 3 = M 37 3 := (m_29 37 3 (by omega))
            refine g_putI (n := 68) hx plX9_148 (sX6_3 (iX8_1 (by decide))) (dq tX9_law 33 rfl) rfl (by omega) (by omega) (fun M_35 m_36e m_36 => ?_)
            have g_37 : Gd M_35 37 (45 + 1) := Gd.frame g_30 (fun c j hcj => m_36 c j (by omega))
            refine g_iload_n (n := 69) hx 0 (dq tX9_law 34 rfl) rfl rfl ?_
            have e_38 : M_35 37 1 = M_28 37 1 := (m_36 37 1 (by omega))
            have e_39 : M_35 37 3 = M_28 37 3 := (m_36 37 3 (by omega))
            exact g_iret hx hr (dq tX9_law 35 rfl) (zrI h_31l h_31u (by decide) (by decide)) ⟨(fun u_ v_ huv_ => ((m_36 u_ v_ (by omega)).trans (m_29 u_ v_ (by omega)))), g_37, (by omega)⟩
          · refine g_bipush (n := 34) hx (dq tX9_law 17 rfl) rfl (by decide) ?_
            exact g_iret hx hr (dq tX9_law 18 rfl) ⟨by decide, by decide⟩ ⟨(fun _ _ _ => rfl), gd0, (by omega)⟩
      · refine g_bipush (n := 18) hx (dq tX9_law 8 rfl) rfl (by decide) ?_
        exact g_iret hx hr (dq tX9_law 9 rfl) ⟨by decide, by decide⟩ ⟨(fun _ _ _ => rfl), gd0, (by omega)⟩

abbrev qctX8_rise2 (M : zM) (b : Nat) (n : Int) (M' : zM) : Prop := (∀ u_ v_, (u_ ≠ b ∨ v_ ≠ 8) ∧ (u_ < b + 3 ∨ b + 11 ≤ u_) ∧ (u_ ≠ b + 11 ∨ v_ ≠ 1) ∧ (u_ < b + 12 ∨ b + 28 ≤ u_) ∧ (u_ ≠ b + 1 ∨ v_ ≠ 1) → M' u_ v_ = M u_ v_) ∧ Gd M' 37 (b + 1) ∧ ((M (b + 1) 1 + n < 999 ∧ M' (b + 1) 1 = M (b + 1) 1 + n) ∨ (999 ≤ M (b + 1) 1 + n ∧ M' (b + 1) 1 = 999))
set_option maxHeartbeats 4000000 in
set_option maxRecDepth 100000 in
theorem ctX8_rise2 (Γ : Gam) (M : zM) (b : Nat) (hb : isX8 b) (n : Int) (hnl : 0 ≤ n) (hnu : n ≤ 99) (pre0 : 0 ≤ M (b + 1) 1 ∧ M (b + 1) 1 ≤ 999) (gd0 : Gd M 37 (b + 1)) : CtV Γ yX8_rise cX8_rise 4 none 4 106 [aR Γ b, vI n] M (qctX8_rise2 M b n) := by
  refine met_v (by decide) (Nat.le_of_ble_eq_true rfl) (fun x hx hr => ?_)
  show G Γ x 4 (QV Γ x (qctX8_rise2 M b n)) M 0 [(0, aR Γ b), (1, vI n)] []
  refine g_aload_n (n := 1) hx 0 (dq tX8_rise 0 rfl) rfl rfl ?_
  refine g_getR (n := 4) hx glX8_12 (sX8_1 hb) (dq tX8_rise 1 rfl) rfl ?_
  refine g_aload_n (n := 5) hx 0 (dq tX8_rise 2 rfl) rfl rfl ?_
  refine g_getR (n := 8) hx glX8_12 (sX8_1 hb) (dq tX8_rise 3 rfl) rfl ?_
  refine g_getI (n := 11) hx glX8_195 (sX6_1 (iX8_1 hb)) (dq tX8_rise 4 rfl) rfl (fun h_1l h_1u => ?_)
  refine g_iload_n (n := 12) hx 1 (dq tX8_rise 5 rfl) rfl rfl ?_
  refine g_iadd (n := 13) hx (dq tX8_rise 6 rfl) rfl ?_
  refine g_sipush (n := 16) hx (dq tX8_rise 7 rfl) rfl (by decide) ?_
  refine g_min (n := 19) hx wd_879 wd_577 wd_17 wd_578 (dq tX8_rise 8 rfl) rfl (Nat.le_of_ble_eq_true rfl) (Nat.le_of_ble_eq_true rfl) ⟨by omega, by omega⟩ ⟨by decide, by decide⟩ (fun z_2 h_3 h_31 h_32 h_33 => ?_)
  refine g_putI (n := 22) hx plX8_195 (sX6_1 (iX8_1 hb)) (dq tX8_rise 9 rfl) rfl (by omega) (by omega) (fun M_4 m_5e m_5 => ?_)
  have g_6 : Gd M_4 37 (b + 1) := Gd.frame gd0 (fun c j hcj => m_5 c j (by omega))
  refine g_aload_n (n := 23) hx 0 (dq tX8_rise 10 rfl) rfl rfl ?_
  refine g_getR (n := 26) hx glX8_12 (sX8_1 hb) (dq tX8_rise 11 rfl) rfl ?_
  refine g_getR (n := 29) hx glX8_75 (sX6_7 (iX8_1 hb)) (dq tX8_rise 12 rfl) rfl ?_
  refine g_iconst (n := 30) hx (dq tX8_rise 13 rfl) rfl ?_
  have e_7 : M_4 37 1 = M 37 1 := (m_5 37 1 (by omega))
  have e_8 : M_4 37 3 = M 37 3 := (m_5 37 3 (by omega))
  refine g_callSv (n := 33) (As := [aR Γ (b + 1 + 2), vI 0]) (rest := []) hx (ctfill_9_0 Γ M_4 (b + 1 + 2) (aX6_7 (b := b + 1) (iX8_1 hb)) 0 (by decide) (by decide)) mlX8_51 (dq tX8_rise 14 rfl) rfl (Nat.le_of_ble_eq_true rfl) (Nat.le_of_ble_eq_true rfl) (Nat.le_of_ble_eq_true rfl) rfl (fun M_10 p_12 => ?_)
  have f_13 := p_12
  have g_14 : Gd M_10 37 (b + 1) := Gd.frame g_6 (fun c j hcj => f_13 c j (by omega))
  refine g_iconst (n := 34) hx (dq tX8_rise 15 rfl) rfl ?_
  refine g_istore_n (n := 35) (lv' := [(2, vI 0), (0, aR Γ b), (1, vI n)]) hx (dq tX8_rise 16 rfl) (by decide) rfl rfl ?_
  have L_17 : ∀ (n_ : Nat) (i_15 : Int) (M_16 : zM), (0 ≤ i_15) → (i_15 ≤ 12) → (∀ u_ v_, u_ ≠ b + 26 → M_16 u_ v_ = M_10 u_ v_) → (Gd M_16 37 (b + 1)) → ((12 - i_15).toNat = n_) → G Γ x 4 (QV Γ x (qctX8_rise2 M b n)) M_16 35 [(2, vI i_15), (0, aR Γ b), (1, vI n)] [] := by
    intro n_
    induction n_ using Nat.strongRecOn with
    | _ n_ ih_18 =>
      intro i_15 M_16 h_22 h_23 f_19 g_20 hm_21
      refine g_iload_n (n := 36) hx 0 (dq tX8_rise 17 rfl) rfl rfl ?_
      refine g_aload_n (n := 37) hx 1 (dq tX8_rise 18 rfl) rfl rfl ?_
      refine g_getR (n := 40) hx glX8_39 (sX8_0 hb) (dq tX8_rise 19 rfl) rfl ?_
      refine g_getI (n := 43) hx glX8_69 (sX2_3 (by decide)) (dq tX8_rise 20 rfl) rfl (fun h_24l h_24u => ?_)
      have e_25 : M_16 37 3 = M_4 37 3 := ((f_19 37 3 (by omega))).trans (f_13 37 3 (by omega))
      refine g_icmp_ge (n := 46) (t := 139) hx (dq tX8_rise 21 rfl) (by decide) rfl ⟨by omega, by omega⟩ (zrI h_24l h_24u (by decide) (by decide)) (fun c_26 => ?_) (fun c_26 => ?_)
      · refine g_iconst (n := 140) hx (dq tX8_rise 71 rfl) rfl ?_
        refine g_istore_n (n := 141) (lv' := [(2, vI 0), (0, aR Γ b), (1, vI n)]) hx (dq tX8_rise 72 rfl) (by decide) rfl rfl ?_
        have L_29 : ∀ (n_ : Nat) (i_27 : Int) (M_28 : zM), (0 ≤ i_27) → (i_27 ≤ 12) → (∀ u_ v_, u_ ≠ b + 1 + 7 → M_28 u_ v_ = M_16 u_ v_) → (Gd M_28 37 (b + 1)) → ((12 - i_27).toNat = n_) → G Γ x 4 (QV Γ x (qctX8_rise2 M b n)) M_28 141 [(2, vI i_27), (0, aR Γ b), (1, vI n)] [] := by
          intro n_
          induction n_ using Nat.strongRecOn with
          | _ n_ ih_30 =>
            intro i_27 M_28 h_34 h_35 f_31 g_32 hm_33
            refine g_iload_n (n := 142) hx 0 (dq tX8_rise 73 rfl) rfl rfl ?_
            refine g_aload_n (n := 143) hx 1 (dq tX8_rise 74 rfl) rfl rfl ?_
            refine g_getR (n := 146) hx glX8_39 (sX8_0 hb) (dq tX8_rise 75 rfl) rfl ?_
            refine g_getI (n := 149) hx glX8_69 (sX2_3 (by decide)) (dq tX8_rise 76 rfl) rfl (fun h_36l h_36u => ?_)
            have e_37 : M_28 37 3 = M_16 37 3 := (f_31 37 3 (by omega))
            refine g_icmp_ge (n := 152) (t := 219) hx (dq tX8_rise 77 rfl) (by decide) rfl ⟨by omega, by omega⟩ (zrI h_36l h_36u (by decide) (by decide)) (fun c_38 => ?_) (fun c_38 => ?_)
            · have e_39 : M_28 37 1 = M_4 37 1 := (((f_31 37 1 (by omega))).trans (f_19 37 1 (by omega))).trans (f_13 37 1 (by omega))
              exact g_vret hx hr (dq tX8_rise 115 rfl) ⟨(fun u_ v_ huv_ => ((((f_31 u_ v_ (by omega)).trans (f_19 u_ v_ (by omega))).trans (f_13 u_ v_ (by omega))).trans (m_5 u_ v_ (by omega)))), g_32, (by have w1 := (((((f_31 (b + 1) 1 (by omega)).trans (f_19 (b + 1) 1 (by omega))).trans (f_13 (b + 1) 1 (by omega)))).trans m_5e); omega)⟩
            · refine g_iload_n (n := 153) hx 0 (dq tX8_rise 78 rfl) rfl rfl ?_
              refine g_istore_n (n := 154) (lv' := [(3, vI i_27), (2, vI i_27), (0, aR Γ b), (1, vI n)]) hx (dq tX8_rise 79 rfl) (by decide) rfl rfl ?_
              have L_42 : ∀ (n_ : Nat) (i_40 : Int) (M_41 : zM), (0 ≤ i_40) → (i_40 ≤ 11) → (∀ u_ v_, u_ ≠ b + 1 + 7 → M_41 u_ v_ = M_28 u_ v_) → (Gd M_41 37 (b + 1)) → (i_40 ≤ i_27) → ((i_40 - 0).toNat = n_) → G Γ x 4 (QV Γ x (qctX8_rise2 M b n)) M_41 154 [(3, vI i_40), (2, vI i_27), (0, aR Γ b), (1, vI n)] [] := by
                intro n_
                induction n_ using Nat.strongRecOn with
                | _ n_ ih_43 =>
                  intro i_40 M_41 h_48 h_49 f_44 g_45 h_47 hm_46
                  refine g_iload_n (n := 155) hx 0 (dq tX8_rise 80 rfl) rfl rfl ?_
                  refine g_if_le (n := 158) (t := 203) hx (dq tX8_rise 81 rfl) (by decide) rfl ⟨by omega, by omega⟩ (fun c_50 => ?_) (fun c_50 => ?_)
                  · refine g_aload_n (n := 204) hx 2 (dq tX8_rise 107 rfl) rfl rfl ?_
                    refine g_getR (n := 207) hx glX8_12 (sX8_1 hb) (dq tX8_rise 108 rfl) rfl ?_
                    refine g_getR (n := 210) hx glX8_198 (sX6_12 (iX8_1 hb)) (dq tX8_rise 109 rfl) rfl ?_
                    refine g_iload_n (n := 211) hx 0 (dq tX8_rise 110 rfl) rfl rfl ?_
                    refine g_iload_n (n := 212) hx 1 (dq tX8_rise 111 rfl) rfl rfl ?_
                    have e_51 : M_41 37 1 = M_4 37 1 := ((((f_44 37 1 (by omega))).trans (f_31 37 1 (by omega))).trans (f_19 37 1 (by omega))).trans (f_13 37 1 (by omega))
                    have e_52 : M_41 37 3 = M_28 37 3 := (f_44 37 3 (by omega))
                    refine g_iast (n := 213) (q := i_40.toNat) hx (aX6_12 (b := b + 1) (iX8_1 hb)) (dq tX8_rise 112 rfl) rfl (by omega) (by omega) (by omega) rfl (by omega) (by omega) (fun M_53 m_54e m_54 => ?_)
                    have g_55 := Gd.order g_45 m_54e m_54 (by omega) (by omega) (by omega) (by omega)
                    refine g_iinc (n := 216) (lv' := [(2, vI (i_27 + 1)), (3, vI i_40), (0, aR Γ b), (1, vI n)]) hx 1 (dq tX8_rise 113 rfl) rfl (by decide) rfl rfl ?_
                    refine g_goto (n := 141) hx (dq tX8_rise 114 rfl) (by decide) ?_
                    have e_56 : M_53 37 1 = M_41 37 1 := (m_54 37 1 (by omega))
                    have e_57 : M_53 37 3 = M_41 37 3 := (m_54 37 3 (by omega))
                    refine g_lv [0, 2, 3] rfl ?_
                    exact ih_30 _ (by omega) (i_27 + 1) M_53 (by omega) (by omega) (fun u_ v_ huv_ => (((m_54 u_ v_ (by omega)).trans (f_44 u_ v_ (by omega))).trans (f_31 u_ v_ (by omega)))) g_55 rfl
                  · refine g_aload_n (n := 159) hx 2 (dq tX8_rise 82 rfl) rfl rfl ?_
                    refine g_iload_n (n := 160) hx 1 (dq tX8_rise 83 rfl) rfl rfl ?_
                    refine g_aload_n (n := 161) hx 2 (dq tX8_rise 84 rfl) rfl rfl ?_
                    refine g_getR (n := 164) hx glX8_12 (sX8_1 hb) (dq tX8_rise 85 rfl) rfl ?_
                    refine g_getR (n := 167) hx glX8_198 (sX6_12 (iX8_1 hb)) (dq tX8_rise 86 rfl) rfl ?_
                    refine g_iload_n (n := 168) hx 0 (dq tX8_rise 87 rfl) rfl rfl ?_
                    refine g_iconst (n := 169) hx (dq tX8_rise 88 rfl) rfl ?_
                    refine g_isub (n := 170) hx (dq tX8_rise 89 rfl) rfl ?_
                    refine g_iald (n := 171) (q := (i_40 - 1).toNat) hx (aX6_12 (b := b + 1) (iX8_1 hb)) (dq tX8_rise 90 rfl) rfl (by omega) (by omega) (by omega) rfl (fun h_58l h_58u => ?_)
                    have e_59 : M_41 37 1 = M_4 37 1 := ((((f_44 37 1 (by omega))).trans (f_31 37 1 (by omega))).trans (f_19 37 1 (by omega))).trans (f_13 37 1 (by omega))
                    have e_60 : M_41 37 3 = M_28 37 3 := (f_44 37 3 (by omega))
                    refine g_iv (fun h_62 => ?_)
                    have h_62v : (0 : Int) ≤ M_41 37 1 ∧ M_41 37 1 ≤ 6 := h_62 37 1
                    have h_62l : (0 : Int) ≤ M_41 37 3 ∧ M_41 37 3 ≤ 12 := h_62 37 3
                    clear h_62
                    have h_61 := g_45.2.2.2.1 ((i_40 - 1).toNat) (by omega)
                    refine g_callVi (n := 174) (As := [vI i_27, vI (M_41 (b + 1 + 7) ((i_40 - 1).toNat))]) (rest := []) hx (ctX8_goesAhead Γ M_41 b hb i_27 (by omega) (by omega) (M_41 (b + 1 + 7) ((i_40 - 1).toNat)) (by omega) (by omega)) mlX8_250 (obX8 hb) (dq tX8_rise 91 rfl) rfl (Nat.le_of_ble_eq_true rfl) (Nat.le_of_ble_eq_true rfl) (Nat.le_of_ble_eq_true rfl) rfl (fun z_63 M_64 h_65 p_66 => ?_)
                    obtain ⟨rfl, b_68⟩ := p_66
                    refine g_if_eq (n := 177) (t := 203) hx (dq tX8_rise 92 rfl) (by decide) rfl h_65 (fun c_69 => ?_) (fun c_69 => ?_)
                    · clear b_68
                      refine g_aload_n (n := 204) hx 2 (dq tX8_rise 107 rfl) rfl rfl ?_
                      refine g_getR (n := 207) hx glX8_12 (sX8_1 hb) (dq tX8_rise 108 rfl) rfl ?_
                      refine g_getR (n := 210) hx glX8_198 (sX6_12 (iX8_1 hb)) (dq tX8_rise 109 rfl) rfl ?_
                      refine g_iload_n (n := 211) hx 0 (dq tX8_rise 110 rfl) rfl rfl ?_
                      refine g_iload_n (n := 212) hx 1 (dq tX8_rise 111 rfl) rfl rfl ?_
                      refine g_iast (n := 213) (q := i_40.toNat) hx (aX6_12 (b := b + 1) (iX8_1 hb)) (dq tX8_rise 112 rfl) rfl (by omega) (by omega) (by omega) rfl (by omega) (by omega) (fun M_70 m_71e m_71 => ?_)
                      have g_72 := Gd.order g_45 m_71e m_71 (by omega) (by omega) (by omega) (by omega)
                      refine g_iinc (n := 216) (lv' := [(2, vI (i_27 + 1)), (3, vI i_40), (0, aR Γ b), (1, vI n)]) hx 1 (dq tX8_rise 113 rfl) rfl (by decide) rfl rfl ?_
                      refine g_goto (n := 141) hx (dq tX8_rise 114 rfl) (by decide) ?_
                      have e_73 : M_70 37 1 = M_41 37 1 := (m_71 37 1 (by omega))
                      have e_74 : M_70 37 3 = M_41 37 3 := (m_71 37 3 (by omega))
                      refine g_lv [0, 2, 3] rfl ?_
                      exact ih_30 _ (by omega) (i_27 + 1) M_70 (by omega) (by omega) (fun u_ v_ huv_ => (((m_71 u_ v_ (by omega)).trans (f_44 u_ v_ (by omega))).trans (f_31 u_ v_ (by omega)))) g_72 rfl
                    · have b_68 := b_68.resolve_left c_69
                      refine g_aload_n (n := 178) hx 2 (dq tX8_rise 93 rfl) rfl rfl ?_
                      refine g_getR (n := 181) hx glX8_12 (sX8_1 hb) (dq tX8_rise 94 rfl) rfl ?_
                      refine g_getR (n := 184) hx glX8_198 (sX6_12 (iX8_1 hb)) (dq tX8_rise 95 rfl) rfl ?_
                      refine g_iload_n (n := 185) hx 0 (dq tX8_rise 96 rfl) rfl rfl ?_
                      refine g_aload_n (n := 186) hx 2 (dq tX8_rise 97 rfl) rfl rfl ?_
                      refine g_getR (n := 189) hx glX8_12 (sX8_1 hb) (dq tX8_rise 98 rfl) rfl ?_
                      refine g_getR (n := 192) hx glX8_198 (sX6_12 (iX8_1 hb)) (dq tX8_rise 99 rfl) rfl ?_
                      refine g_iload_n (n := 193) hx 0 (dq tX8_rise 100 rfl) rfl rfl ?_
                      refine g_iconst (n := 194) hx (dq tX8_rise 101 rfl) rfl ?_
                      refine g_isub (n := 195) hx (dq tX8_rise 102 rfl) rfl ?_
                      refine g_iald (n := 196) (q := (i_40 - 1).toNat) hx (aX6_12 (b := b + 1) (iX8_1 hb)) (dq tX8_rise 103 rfl) rfl (by omega) (by omega) (by omega) rfl (fun h_75l h_75u => ?_)
                      refine g_iv (fun h_77 => ?_)
                      have h_77v : (0 : Int) ≤ M_41 37 1 ∧ M_41 37 1 ≤ 6 := h_77 37 1
                      have h_77l : (0 : Int) ≤ M_41 37 3 ∧ M_41 37 3 ≤ 12 := h_77 37 3
                      clear h_77
                      have h_76 := g_45.2.2.2.1 ((i_40 - 1).toNat) (by omega)
                      refine g_iast (n := 197) (q := i_40.toNat) hx (aX6_12 (b := b + 1) (iX8_1 hb)) (dq tX8_rise 104 rfl) rfl (by omega) (by omega) (by omega) rfl (by omega) (by omega) (fun M_78 m_79e m_79 => ?_)
                      have g_80 := Gd.order g_45 m_79e m_79 (by omega) (by omega) (by omega) (by omega)
                      refine g_iinc (n := 200) (lv' := [(3, vI (i_40 + (-1))), (2, vI i_27), (0, aR Γ b), (1, vI n)]) hx 0 (dq tX8_rise 105 rfl) rfl (by decide) rfl rfl ?_
                      refine g_goto (n := 154) hx (dq tX8_rise 106 rfl) (by decide) ?_
                      have e_81 : M_78 37 1 = M_41 37 1 := (m_79 37 1 (by omega))
                      have e_82 : M_78 37 3 = M_41 37 3 := (m_79 37 3 (by omega))
                      exact ih_43 _ (by omega) (i_40 + (-1)) M_78 (by omega) (by omega) (fun u_ v_ huv_ => ((m_79 u_ v_ (by omega)).trans (f_44 u_ v_ (by omega)))) g_80 (by first | assumption | omega) rfl
              have e_83 : M_28 37 1 = M_4 37 1 := (((f_31 37 1 (by omega))).trans (f_19 37 1 (by omega))).trans (f_13 37 1 (by omega))
              exact L_42 _ i_27 M_28 (by omega) (by omega) (fun _ _ _ => rfl) g_32 (by first | assumption | omega) rfl
        have e_84 : M_16 37 1 = M_4 37 1 := ((f_19 37 1 (by omega))).trans (f_13 37 1 (by omega))
        exact L_29 _ 0 M_16 (by omega) (by omega) (fun _ _ _ => rfl) g_20 rfl
      · refine g_aload_n (n := 47) hx 1 (dq tX8_rise 22 rfl) rfl rfl ?_
        refine g_getR (n := 50) hx glX8_12 (sX8_1 hb) (dq tX8_rise 23 rfl) rfl ?_
        refine g_iload_n (n := 51) hx 0 (dq tX8_rise 24 rfl) rfl rfl ?_
        have e_85 : M_16 37 1 = M_4 37 1 := ((f_19 37 1 (by omega))).trans (f_13 37 1 (by omega))
        refine g_callVi (n := 54) (As := [vI i_15]) (rest := []) hx (ctX6_isGone Γ M_16 (b + 1) (iX8_1 hb) i_15 (by omega) (by omega)) mlX8_146 (obX6 (iX8_1 hb)) (dq tX8_rise 25 rfl) rfl (Nat.le_of_ble_eq_true rfl) (Nat.le_of_ble_eq_true rfl) (Nat.le_of_ble_eq_true rfl) rfl (fun z_86 M_87 h_88 p_89 => ?_)
        obtain ⟨rfl, b_91⟩ := p_89
        refine g_if_eq (n := 57) (t := 67) hx (dq tX8_rise 26 rfl) (by decide) rfl h_88 (fun c_93 => ?_) (fun c_93 => ?_)
        · clear b_91
          refine g_aload_n (n := 68) hx 1 (dq tX8_rise 33 rfl) rfl rfl ?_
          refine g_getR (n := 71) hx glX8_12 (sX8_1 hb) (dq tX8_rise 34 rfl) rfl ?_
          refine g_getI (n := 74) hx glX8_218 (sX6_2 (iX8_1 hb)) (dq tX8_rise 35 rfl) rfl (fun h_94l h_94u => ?_)
          refine g_iconst (n := 75) hx (dq tX8_rise 36 rfl) rfl ?_
          refine g_icmp_eq (n := 78) (t := 126) hx (dq tX8_rise 37 rfl) (by decide) rfl (zrI h_94l h_94u (by decide) (by decide)) ⟨by decide, by decide⟩ (fun c_95 => ?_) (fun c_95 => ?_)
          · refine g_aload_n (n := 127) hx 1 (dq tX8_rise 64 rfl) rfl rfl ?_
            refine g_getR (n := 130) hx glX8_33 (sX8_6 hb) (dq tX8_rise 65 rfl) rfl ?_
            refine g_iload_n (n := 131) hx 0 (dq tX8_rise 66 rfl) rfl rfl ?_
            refine g_iconst (n := 132) hx (dq tX8_rise 67 rfl) rfl ?_
            refine g_iast (n := 133) (q := i_15.toNat) hx (aX8_6 (b := b) hb) (dq tX8_rise 68 rfl) rfl (by omega) (by omega) (by omega) rfl (by omega) (by omega) (fun M_96 m_97e m_97 => ?_)
            have g_98 : Gd M_96 37 (b + 1) := Gd.frame g_20 (fun c j hcj => m_97 c j (by omega))
            refine g_iinc (n := 136) (lv' := [(2, vI (i_15 + 1)), (0, aR Γ b), (1, vI n)]) hx 0 (dq tX8_rise 69 rfl) rfl (by decide) rfl rfl ?_
            refine g_goto (n := 35) hx (dq tX8_rise 70 rfl) (by decide) ?_
            have e_99 : M_96 37 1 = M_16 37 1 := (m_97 37 1 (by omega))
            have e_100 : M_96 37 3 = M_16 37 3 := (m_97 37 3 (by omega))
            exact ih_18 _ (by omega) (i_15 + 1) M_96 (by omega) (by omega) (fun u_ v_ huv_ => ((m_97 u_ v_ (by omega)).trans (f_19 u_ v_ (by omega)))) g_98 rfl
          · refine g_aload_n (n := 79) hx 1 (dq tX8_rise 38 rfl) rfl rfl ?_
            refine g_aload_n (n := 80) hx 1 (dq tX8_rise 39 rfl) rfl rfl ?_
            refine g_getR (n := 83) hx glX8_12 (sX8_1 hb) (dq tX8_rise 40 rfl) rfl ?_
            refine g_getI (n := 86) hx glX8_218 (sX6_2 (iX8_1 hb)) (dq tX8_rise 41 rfl) rfl (fun h_101l h_101u => ?_)
            refine g_iconst (n := 87) hx (dq tX8_rise 42 rfl) rfl ?_
            refine g_iload_n (n := 88) hx 0 (dq tX8_rise 43 rfl) rfl rfl ?_
            refine g_iconst (n := 89) hx (dq tX8_rise 44 rfl) rfl ?_
            refine g_callVi (n := 92) (As := [vI (M_16 (b + 1) 2), vI 3, vI i_15, vI (-1)]) (rest := []) hx (ctX8_asks Γ M_16 b hb (M_16 (b + 1) 2) (by omega) (by omega) 3 (by decide) (by decide) i_15 (by omega) (by omega) (-1) (by decide) (by decide) (by omega) (by omega) g_20) mlX8_221 (obX8 hb) (dq tX8_rise 45 rfl) rfl (Nat.le_of_ble_eq_true rfl) (Nat.le_of_ble_eq_true rfl) (Nat.le_of_ble_eq_true rfl) rfl (fun z_102 M_103 h_104 p_105 => ?_)
            obtain ⟨rfl, b_107⟩ := p_105
            refine g_if_eq (n := 95) (t := 126) hx (dq tX8_rise 46 rfl) (by decide) rfl h_104 (fun c_108 => ?_) (fun c_108 => ?_)
            · clear b_107
              refine g_aload_n (n := 127) hx 1 (dq tX8_rise 64 rfl) rfl rfl ?_
              refine g_getR (n := 130) hx glX8_33 (sX8_6 hb) (dq tX8_rise 65 rfl) rfl ?_
              refine g_iload_n (n := 131) hx 0 (dq tX8_rise 66 rfl) rfl rfl ?_
              refine g_iconst (n := 132) hx (dq tX8_rise 67 rfl) rfl ?_
              refine g_iast (n := 133) (q := i_15.toNat) hx (aX8_6 (b := b) hb) (dq tX8_rise 68 rfl) rfl (by omega) (by omega) (by omega) rfl (by omega) (by omega) (fun M_109 m_110e m_110 => ?_)
              have g_111 : Gd M_109 37 (b + 1) := Gd.frame g_20 (fun c j hcj => m_110 c j (by omega))
              refine g_iinc (n := 136) (lv' := [(2, vI (i_15 + 1)), (0, aR Γ b), (1, vI n)]) hx 0 (dq tX8_rise 69 rfl) rfl (by decide) rfl rfl ?_
              refine g_goto (n := 35) hx (dq tX8_rise 70 rfl) (by decide) ?_
              have e_112 : M_109 37 1 = M_16 37 1 := (m_110 37 1 (by omega))
              have e_113 : M_109 37 3 = M_16 37 3 := (m_110 37 3 (by omega))
              exact ih_18 _ (by omega) (i_15 + 1) M_109 (by omega) (by omega) (fun u_ v_ huv_ => ((m_110 u_ v_ (by omega)).trans (f_19 u_ v_ (by omega)))) g_111 rfl
            · have b_107 := b_107.resolve_left c_108
              refine g_aload_n (n := 96) hx 1 (dq tX8_rise 47 rfl) rfl rfl ?_
              refine g_getR (n := 99) hx glX8_33 (sX8_6 hb) (dq tX8_rise 48 rfl) rfl ?_
              refine g_iload_n (n := 100) hx 0 (dq tX8_rise 49 rfl) rfl rfl ?_
              refine g_iconst (n := 101) hx (dq tX8_rise 50 rfl) rfl ?_
              refine g_iast (n := 102) (q := i_15.toNat) hx (aX8_6 (b := b) hb) (dq tX8_rise 51 rfl) rfl (by omega) (by omega) (by omega) rfl (by omega) (by omega) (fun M_114 m_115e m_115 => ?_)
              have g_116 : Gd M_114 37 (b + 1) := Gd.frame g_20 (fun c j hcj => m_115 c j (by omega))
              refine g_aload_n (n := 103) hx 1 (dq tX8_rise 52 rfl) rfl rfl ?_
              refine g_getR (n := 106) hx glX8_36 (sX8_7 hb) (dq tX8_rise 53 rfl) rfl ?_
              refine g_iload_n (n := 107) hx 0 (dq tX8_rise 54 rfl) rfl rfl ?_
              refine g_aload_n (n := 108) hx 1 (dq tX8_rise 55 rfl) rfl rfl ?_
              refine g_getR (n := 111) hx glX8_43 (sX8_4 hb) (dq tX8_rise 56 rfl) rfl ?_
              refine g_aload_n (n := 112) hx 1 (dq tX8_rise 57 rfl) rfl rfl ?_
              refine g_getR (n := 115) hx glX8_12 (sX8_1 hb) (dq tX8_rise 58 rfl) rfl ?_
              refine g_getI (n := 118) hx glX8_218 (sX6_2 (iX8_1 hb)) (dq tX8_rise 59 rfl) rfl (fun h_117l h_117u => ?_)
              have e_118 : M_114 (b + 1) 2 = M_16 (b + 1) 2 := (m_115 (b + 1) 2 (by omega))
              refine g_aald (n := 119) (q := (M_114 (b + 1) 2).toNat) hx (aX8_4 (b := b) hb) (by decide) (dq tX8_rise 60 rfl) rfl (by omega) (by omega) (by omega) rfl ?_
              refine g_named (c := zrf 1 ((M_114 (b + 1) 2).toNat)) (fun o_119 eo_119 => ?_)
              have o_120 : isX4 o_119 := by rw [eo_119]; exact zrfX4 ((M_114 (b + 1) 2).toNat) (by omega)
              refine g_getJ (n := 122) hx glX8_139 (sX4_5 o_120) (dq tX8_rise 61 rfl) rfl (fun w_121 => ?_)
              refine g_last (n := 123) hx (aX8_7 (b := b) hb) (dq tX8_rise 62 rfl) rfl (by omega) (by omega) (by omega) ?_
              refine g_goto (n := 133) hx (dq tX8_rise 63 rfl) (by decide) ?_
              refine g_iinc (n := 136) (lv' := [(2, vI (i_15 + 1)), (0, aR Γ b), (1, vI n)]) hx 0 (dq tX8_rise 69 rfl) rfl (by decide) rfl rfl ?_
              refine g_goto (n := 35) hx (dq tX8_rise 70 rfl) (by decide) ?_
              have e_122 : M_114 37 1 = M_16 37 1 := (m_115 37 1 (by omega))
              have e_123 : M_114 37 3 = M_16 37 3 := (m_115 37 3 (by omega))
              exact ih_18 _ (by omega) (i_15 + 1) M_114 (by omega) (by omega) (fun u_ v_ huv_ => ((m_115 u_ v_ (by omega)).trans (f_19 u_ v_ (by omega)))) g_116 rfl
        · have b_91 := b_91.resolve_left c_93
          obtain ⟨-, h_92⟩ := b_91
          refine g_aload_n (n := 58) hx 1 (dq tX8_rise 27 rfl) rfl rfl ?_
          refine g_getR (n := 61) hx glX8_33 (sX8_6 hb) (dq tX8_rise 28 rfl) rfl ?_
          refine g_iload_n (n := 62) hx 0 (dq tX8_rise 29 rfl) rfl rfl ?_
          refine g_iconst (n := 63) hx (dq tX8_rise 30 rfl) rfl ?_
          refine g_iast (n := 64) (q := i_15.toNat) hx (aX8_6 (b := b) hb) (dq tX8_rise 31 rfl) rfl (by omega) (by omega) (by omega) rfl (by omega) (by omega) (fun M_124 m_125e m_125 => ?_)
          have g_126 : Gd M_124 37 (b + 1) := Gd.frame g_20 (fun c j hcj => m_125 c j (by omega))
          refine g_goto (n := 133) hx (dq tX8_rise 32 rfl) (by decide) ?_
          refine g_iinc (n := 136) (lv' := [(2, vI (i_15 + 1)), (0, aR Γ b), (1, vI n)]) hx 0 (dq tX8_rise 69 rfl) rfl (by decide) rfl rfl ?_
          refine g_goto (n := 35) hx (dq tX8_rise 70 rfl) (by decide) ?_
          have e_127 : M_124 37 1 = M_16 37 1 := (m_125 37 1 (by omega))
          have e_128 : M_124 37 3 = M_16 37 3 := (m_125 37 3 (by omega))
          exact ih_18 _ (by omega) (i_15 + 1) M_124 (by omega) (by omega) (fun u_ v_ huv_ => ((m_125 u_ v_ (by omega)).trans (f_19 u_ v_ (by omega)))) g_126 rfl
  have e_129 : M_10 37 1 = M_4 37 1 := (f_13 37 1 (by omega))
  have e_130 : M_10 37 3 = M_4 37 3 := (f_13 37 3 (by omega))
  exact L_17 _ 0 M_10 (by omega) (by omega) (fun _ _ _ => rfl) g_14 rfl

abbrev qctX9_flood2 (M : zM) (n : Int) (z : Int) (M' : zM) : Prop := (∀ u_ v_, (u_ < 0 + 3 ∨ 0 + 7 ≤ u_) ∧ (u_ ≠ 45 ∨ v_ ≠ 8) ∧ (u_ < 45 + 3 ∨ 45 + 11 ≤ u_) ∧ (u_ ≠ 45 + 11 ∨ v_ ≠ 1) ∧ (u_ ≠ 45 + 11 ∨ v_ ≠ 4) ∧ (u_ ≠ 45 + 11 ∨ v_ ≠ 11) ∧ (u_ < 45 + 12 ∨ 45 + 28 ≤ u_) ∧ (u_ < 73 ∨ 73 + 28 ≤ u_) ∧ (u_ ≠ 45 + 1 ∨ v_ ≠ 1) → M' u_ v_ = M u_ v_) ∧ Gd M' 37 (45 + 1) ∧ ((0 < M 37 0 ∧ 0 ≤ n ∧ n ≤ 99 ∧ z = M' (45 + 1) 1 ∧ ((M (45 + 1) 1 + n < 999 ∧ M' (45 + 1) 1 = M (45 + 1) 1 + n) ∨ (999 ≤ M (45 + 1) 1 + n ∧ M' (45 + 1) 1 = 999))) ∨ (¬ (0 < M 37 0 ∧ 0 ≤ n ∧ n ≤ 99) ∧ z = -2 ∧ M' (45 + 1) 1 = M (45 + 1) 1))
set_option maxHeartbeats 4000000 in
set_option maxRecDepth 100000 in
theorem ctX9_flood2 (Γ : Gam) (M : zM) (n : Int) (hnl : (-2147483648) ≤ n) (hnu : n ≤ 2147483647) (pre0 : 0 ≤ M (45 + 1) 1 ∧ M (45 + 1) 1 ≤ 999) (gd0 : Gd M 37 (45 + 1)) : CtI Γ yX9_flood cX9_flood 2 (some .int) 5 129 [aR Γ 0, vI n] M (qctX9_flood2 M n) := by
  refine met_i (by decide) (Nat.le_of_ble_eq_true rfl) (fun x hx hr => ?_)
  show G Γ x 2 (QI Γ x (qctX9_flood2 M n)) M 0 [(0, aR Γ 0), (1, vI n)] []
  refine g_aload_n (n := 1) hx 0 (dq tX9_flood 0 rfl) rfl rfl ?_
  refine g_callVi (n := 4) (As := []) (rest := []) hx (ctX9_hasRiver2 Γ M ) mlX9_126 (obX9 (by decide)) (dq tX9_flood 1 rfl) rfl (Nat.le_of_ble_eq_true rfl) (Nat.le_of_ble_eq_true rfl) (Nat.le_of_ble_eq_true rfl) rfl (fun z_1 M_2 h_3 p_4 => ?_)
  obtain ⟨rfl, h_6, h_7, h_8⟩ := p_4
  refine g_if_eq (n := 7) (t := 17) hx (dq tX9_flood 2 rfl) (by decide) rfl h_3 (fun c_9 => ?_) (fun c_9 => ?_)
  · refine g_bipush (n := 19) hx (dq tX9_flood 8 rfl) rfl (by decide) ?_
    exact g_iret hx hr (dq tX9_flood 9 rfl) ⟨by decide, by decide⟩ ⟨(fun _ _ _ => rfl), gd0, (by omega)⟩
  · refine g_iload_n (n := 8) hx 1 (dq tX9_flood 3 rfl) rfl rfl ?_
    refine g_if_lt (n := 11) (t := 17) hx (dq tX9_flood 4 rfl) (by decide) rfl (zrI hnl hnu (by decide) (by decide)) (fun c_10 => ?_) (fun c_10 => ?_)
    · refine g_bipush (n := 19) hx (dq tX9_flood 8 rfl) rfl (by decide) ?_
      exact g_iret hx hr (dq tX9_flood 9 rfl) ⟨by decide, by decide⟩ ⟨(fun _ _ _ => rfl), gd0, (by omega)⟩
    · refine g_iload_n (n := 12) hx 1 (dq tX9_flood 5 rfl) rfl rfl ?_
      refine g_bipush (n := 14) hx (dq tX9_flood 6 rfl) rfl (by decide) ?_
      refine g_icmp_le (n := 17) (t := 20) hx (dq tX9_flood 7 rfl) (by decide) rfl (zrI hnl hnu (by decide) (by decide)) ⟨by decide, by decide⟩ (fun c_11 => ?_) (fun c_11 => ?_)
      · refine g_aload_n (n := 21) hx 0 (dq tX9_flood 10 rfl) rfl rfl ?_
        refine g_getR (n := 24) hx glX9_47 (sX9_5 (by decide)) (dq tX9_flood 11 rfl) rfl ?_
        refine g_iload_n (n := 25) hx 1 (dq tX9_flood 12 rfl) rfl rfl ?_
        refine g_callVv (n := 28) (As := [vI n]) (rest := []) hx (ctX8_rise2 Γ M 45 (by decide) n (by omega) (by omega) (by omega) gd0) mlX9_277 (obX8 (by decide)) (dq tX9_flood 13 rfl) rfl (Nat.le_of_ble_eq_true rfl) (Nat.le_of_ble_eq_true rfl) (Nat.le_of_ble_eq_true rfl) rfl (fun M_13 p_15 => ?_)
        obtain ⟨f_16, g_17, h_18⟩ := p_15
        refine g_aload_n (n := 29) hx 0 (dq tX9_flood 14 rfl) rfl rfl ?_
        refine g_getR (n := 32) hx glX9_47 (sX9_5 (by decide)) (dq tX9_flood 15 rfl) rfl ?_
        refine g_getR (n := 35) hx glX9_100 (sX8_1 (by decide)) (dq tX9_flood 16 rfl) rfl ?_
        refine g_getI (n := 38) hx glX9_280 (sX6_1 (iX8_1 (by decide))) (dq tX9_flood 17 rfl) rfl (fun h_20l h_20u => ?_)
        have e_21 : M_13 37 1 = M 37 1 := (f_16 37 1 (by omega))
        have e_22 : M_13 37 3 = M 37 3 := (f_16 37 3 (by omega))
        exact g_iret hx hr (dq tX9_flood 18 rfl) (zrI h_20l h_20u (by decide) (by decide)) ⟨(fun u_ v_ huv_ => (f_16 u_ v_ (by omega))), g_17, (by omega)⟩
      · refine g_bipush (n := 19) hx (dq tX9_flood 8 rfl) rfl (by decide) ?_
        exact g_iret hx hr (dq tX9_flood 9 rfl) ⟨by decide, by decide⟩ ⟨(fun _ _ _ => rfl), gd0, (by omega)⟩

abbrev qctX8_passDay2 (M : zM) (b : Nat) (M' : zM) : Prop := (∀ u_ v_, (u_ ≠ b ∨ v_ ≠ 8) ∧ (u_ < b + 3 ∨ b + 11 ≤ u_) ∧ (u_ ≠ b + 11 ∨ v_ ≠ 1) ∧ (u_ < b + 12 ∨ b + 28 ≤ u_) ∧ (u_ ≠ b + 1 ∨ v_ ≠ 0) → M' u_ v_ = M u_ v_) ∧ Gd M' 37 (b + 1) ∧ ((M (b + 1) 0 < 9999 ∧ M' (b + 1) 0 = M (b + 1) 0 + 1) ∨ (9999 ≤ M (b + 1) 0 ∧ M' (b + 1) 0 = 9999))
set_option maxHeartbeats 4000000 in
set_option maxRecDepth 100000 in
theorem ctX8_passDay2 (Γ : Gam) (M : zM) (b : Nat) (hb : isX8 b) (gd0 : Gd M 37 (b + 1)) : CtV Γ yX8_passDay cX8_passDay 2 none 5 130 [aR Γ b] M (qctX8_passDay2 M b) := by
  refine met_v (by decide) (Nat.le_of_ble_eq_true rfl) (fun x hx hr => ?_)
  show G Γ x 2 (QV Γ x (qctX8_passDay2 M b)) M 0 [(0, aR Γ b)] []
  refine g_iconst (n := 1) hx (dq tX8_passDay 0 rfl) rfl ?_
  refine g_istore_n (n := 2) (lv' := [(1, vI 0), (0, aR Γ b)]) hx (dq tX8_passDay 1 rfl) (by decide) rfl rfl ?_
  have L_3 : ∀ (n_ : Nat) (i_1 : Int) (M_2 : zM), (0 ≤ i_1) → (i_1 ≤ 12) → (∀ u_ v_, (u_ ≠ b ∨ v_ ≠ 8) ∧ (u_ < b + 3 ∨ b + 11 ≤ u_) ∧ (u_ ≠ b + 11 ∨ v_ ≠ 1) ∧ (u_ < b + 12 ∨ b + 28 ≤ u_) → M_2 u_ v_ = M u_ v_) → (Gd M_2 37 (b + 1)) → ((12 - i_1).toNat = n_) → G Γ x 2 (QV Γ x (qctX8_passDay2 M b)) M_2 2 [(1, vI i_1), (0, aR Γ b)] [] := by
    intro n_
    induction n_ using Nat.strongRecOn with
    | _ n_ ih_4 =>
      intro i_1 M_2 h_8 h_9 f_5 g_6 hm_7
      refine g_iload_n (n := 3) hx 0 (dq tX8_passDay 2 rfl) rfl rfl ?_
      refine g_aload_n (n := 4) hx 1 (dq tX8_passDay 3 rfl) rfl rfl ?_
      refine g_getR (n := 7) hx glX8_39 (sX8_0 hb) (dq tX8_passDay 4 rfl) rfl ?_
      refine g_getI (n := 10) hx glX8_69 (sX2_3 (by decide)) (dq tX8_passDay 5 rfl) rfl (fun h_10l h_10u => ?_)
      have e_11 : M_2 37 3 = M 37 3 := (f_5 37 3 (by omega))
      refine g_icmp_ge (n := 13) (t := 32) hx (dq tX8_passDay 6 rfl) (by decide) rfl ⟨by omega, by omega⟩ (zrI h_10l h_10u (by decide) (by decide)) (fun c_12 => ?_) (fun c_12 => ?_)
      · refine g_aload_n (n := 33) hx 1 (dq tX8_passDay 16 rfl) rfl rfl ?_
        refine g_iconst (n := 34) hx (dq tX8_passDay 17 rfl) rfl ?_
        have e_13 : M_2 37 1 = M 37 1 := (f_5 37 1 (by omega))
        have e_14 : M_2 (b + 1) 0 = M (b + 1) 0 := (f_5 (b + 1) 0 (by omega))
        refine g_putI (n := 37) hx plX8_205 (sX8_8 hb) (dq tX8_passDay 18 rfl) rfl (by omega) (by omega) (fun M_15 m_16e m_16 => ?_)
        have g_17 : Gd M_15 37 (b + 1) := Gd.frame g_6 (fun c j hcj => m_16 c j (by omega))
        refine g_iconst (n := 38) hx (dq tX8_passDay 19 rfl) rfl ?_
        refine g_istore_n (n := 39) (lv' := [(1, vI 0), (0, aR Γ b)]) hx (dq tX8_passDay 20 rfl) (by decide) rfl rfl ?_
        have L_20 : ∀ (n_ : Nat) (i_18 : Int) (M_19 : zM), (0 ≤ i_18) → (i_18 ≤ 6) → (∀ u_ v_, (u_ ≠ b ∨ v_ ≠ 8) ∧ (u_ < b + 3 ∨ b + 11 ≤ u_) ∧ (u_ ≠ b + 11 ∨ v_ ≠ 1) ∧ (u_ < b + 12 ∨ b + 28 ≤ u_) → M_19 u_ v_ = M_15 u_ v_) → (Gd M_19 37 (b + 1)) → ((6 - i_18).toNat = n_) → G Γ x 2 (QV Γ x (qctX8_passDay2 M b)) M_19 39 [(1, vI i_18), (0, aR Γ b)] [] := by
          intro n_
          induction n_ using Nat.strongRecOn with
          | _ n_ ih_21 =>
            intro i_18 M_19 h_25 h_26 f_22 g_23 hm_24
            refine g_iload_n (n := 40) hx 0 (dq tX8_passDay 21 rfl) rfl rfl ?_
            refine g_aload_n (n := 41) hx 1 (dq tX8_passDay 22 rfl) rfl rfl ?_
            refine g_getR (n := 44) hx glX8_39 (sX8_0 hb) (dq tX8_passDay 23 rfl) rfl ?_
            refine g_getI (n := 47) hx glX8_93 (sX2_1 (by decide)) (dq tX8_passDay 24 rfl) rfl (fun h_27l h_27u => ?_)
            have e_28 : M_19 37 1 = M_2 37 1 := ((f_22 37 1 (by omega))).trans (m_16 37 1 (by omega))
            refine g_icmp_ge (n := 50) (t := 83) hx (dq tX8_passDay 25 rfl) (by decide) rfl ⟨by omega, by omega⟩ (zrI h_27l h_27u (by decide) (by decide)) (fun c_29 => ?_) (fun c_29 => ?_)
            · refine g_aload_n (n := 84) hx 1 (dq tX8_passDay 43 rfl) rfl rfl ?_
              refine g_getR (n := 87) hx glX8_12 (sX8_1 hb) (dq tX8_passDay 44 rfl) rfl ?_
              refine g_aload_n (n := 88) hx 1 (dq tX8_passDay 45 rfl) rfl rfl ?_
              refine g_getR (n := 91) hx glX8_12 (sX8_1 hb) (dq tX8_passDay 46 rfl) rfl ?_
              refine g_getI (n := 94) hx glX8_96 (sX6_0 (iX8_1 hb)) (dq tX8_passDay 47 rfl) rfl (fun h_30l h_30u => ?_)
              have e_31 : M_19 (b + 1) 0 = M_2 (b + 1) 0 := ((f_22 (b + 1) 0 (by omega))).trans (m_16 (b + 1) 0 (by omega))
              refine g_iconst (n := 95) hx (dq tX8_passDay 48 rfl) rfl ?_
              refine g_iadd (n := 96) hx (dq tX8_passDay 49 rfl) rfl ?_
              refine g_sipush (n := 99) hx (dq tX8_passDay 50 rfl) rfl (by decide) ?_
              refine g_min (n := 102) hx wd_879 wd_577 wd_17 wd_578 (dq tX8_passDay 51 rfl) rfl (Nat.le_of_ble_eq_true rfl) (Nat.le_of_ble_eq_true rfl) ⟨by omega, by omega⟩ ⟨by decide, by decide⟩ (fun z_32 h_33 h_331 h_332 h_333 => ?_)
              have e_34 : M_19 37 3 = M_2 37 3 := ((f_22 37 3 (by omega))).trans (m_16 37 3 (by omega))
              refine g_putI (n := 105) hx plX8_96 (sX6_0 (iX8_1 hb)) (dq tX8_passDay 52 rfl) rfl (by omega) (by omega) (fun M_35 m_36e m_36 => ?_)
              have g_37 : Gd M_35 37 (b + 1) := Gd.frame g_23 (fun c j hcj => m_36 c j (by omega))
              have e_38 : M_35 37 1 = M_19 37 1 := (m_36 37 1 (by omega))
              have e_39 : M_35 37 3 = M_19 37 3 := (m_36 37 3 (by omega))
              exact g_vret hx hr (dq tX8_passDay 53 rfl) ⟨(fun u_ v_ huv_ => ((((m_36 u_ v_ (by omega)).trans (f_22 u_ v_ (by omega))).trans (m_16 u_ v_ (by omega))).trans (f_5 u_ v_ (by omega)))), g_37, (by omega)⟩
            · refine g_aload_n (n := 51) hx 1 (dq tX8_passDay 26 rfl) rfl rfl ?_
              refine g_getR (n := 54) hx glX8_12 (sX8_1 hb) (dq tX8_passDay 27 rfl) rfl ?_
              refine g_getR (n := 57) hx glX8_208 (sX6_6 (iX8_1 hb)) (dq tX8_passDay 28 rfl) rfl ?_
              refine g_iload_n (n := 58) hx 0 (dq tX8_passDay 29 rfl) rfl rfl ?_
              refine g_iald (n := 59) (q := i_18.toNat) hx (aX6_6 (b := b + 1) (iX8_1 hb)) (dq tX8_passDay 30 rfl) rfl (by omega) (by omega) (by omega) rfl (fun h_40l h_40u => ?_)
              refine g_iconst (n := 60) hx (dq tX8_passDay 31 rfl) rfl ?_
              refine g_icmp_eq (n := 63) (t := 77) hx (dq tX8_passDay 32 rfl) (by decide) rfl (zrI h_40l h_40u (by decide) (by decide)) ⟨by decide, by decide⟩ (fun c_41 => ?_) (fun c_41 => ?_)
              · refine g_iinc (n := 80) (lv' := [(1, vI (i_18 + 1)), (0, aR Γ b)]) hx 0 (dq tX8_passDay 41 rfl) rfl (by decide) rfl rfl ?_
                refine g_goto (n := 39) hx (dq tX8_passDay 42 rfl) (by decide) ?_
                have e_42 : M_19 37 3 = M_2 37 3 := ((f_22 37 3 (by omega))).trans (m_16 37 3 (by omega))
                have e_43 : M_19 (b + 1) 0 = M_2 (b + 1) 0 := ((f_22 (b + 1) 0 (by omega))).trans (m_16 (b + 1) 0 (by omega))
                exact ih_21 _ (by omega) (i_18 + 1) M_19 (by omega) (by omega) (fun u_ v_ huv_ => (f_22 u_ v_ (by omega))) g_23 rfl
              · refine g_aload_n (n := 64) hx 1 (dq tX8_passDay 33 rfl) rfl rfl ?_
                refine g_iload_n (n := 65) hx 0 (dq tX8_passDay 34 rfl) rfl rfl ?_
                refine g_aload_n (n := 66) hx 1 (dq tX8_passDay 35 rfl) rfl rfl ?_
                refine g_getR (n := 69) hx glX8_12 (sX8_1 hb) (dq tX8_passDay 36 rfl) rfl ?_
                refine g_getR (n := 72) hx glX8_208 (sX6_6 (iX8_1 hb)) (dq tX8_passDay 37 rfl) rfl ?_
                refine g_iload_n (n := 73) hx 0 (dq tX8_passDay 38 rfl) rfl rfl ?_
                refine g_iald (n := 74) (q := i_18.toNat) hx (aX6_6 (b := b + 1) (iX8_1 hb)) (dq tX8_passDay 39 rfl) rfl (by omega) (by omega) (by omega) rfl (fun h_44l h_44u => ?_)
                have e_45 : M_19 37 3 = M_2 37 3 := ((f_22 37 3 (by omega))).trans (m_16 37 3 (by omega))
                have e_46 : M_19 (b + 1) 0 = M_2 (b + 1) 0 := ((f_22 (b + 1) 0 (by omega))).trans (m_16 (b + 1) 0 (by omega))
                refine g_callVv (n := 77) (As := [vI i_18, vI (M_19 (b + 1 + 1) i_18.toNat)]) (rest := []) hx (ctX8_passVillage Γ M_19 b hb i_18 (by omega) (by omega) (M_19 (b + 1 + 1) i_18.toNat) (by omega) (by omega) (by omega) g_23) mlX8_211 (obX8 hb) (dq tX8_passDay 40 rfl) rfl (Nat.le_of_ble_eq_true rfl) (Nat.le_of_ble_eq_true rfl) (Nat.le_of_ble_eq_true rfl) rfl (fun M_48 p_50 => ?_)
                obtain ⟨f_51, g_52⟩ := p_50
                refine g_iinc (n := 80) (lv' := [(1, vI (i_18 + 1)), (0, aR Γ b)]) hx 0 (dq tX8_passDay 41 rfl) rfl (by decide) rfl rfl ?_
                refine g_goto (n := 39) hx (dq tX8_passDay 42 rfl) (by decide) ?_
                have e_54 : M_48 37 1 = M_19 37 1 := (f_51 37 1 (by omega))
                have e_55 : M_48 37 3 = M_19 37 3 := (f_51 37 3 (by omega))
                have e_56 : M_48 (b + 1) 0 = M_19 (b + 1) 0 := (f_51 (b + 1) 0 (by omega))
                exact ih_21 _ (by omega) (i_18 + 1) M_48 (by omega) (by omega) (fun u_ v_ huv_ => ((f_51 u_ v_ (by omega)).trans (f_22 u_ v_ (by omega)))) g_52 rfl
        have e_57 : M_15 37 1 = M_2 37 1 := (m_16 37 1 (by omega))
        have e_58 : M_15 37 3 = M_2 37 3 := (m_16 37 3 (by omega))
        have e_59 : M_15 (b + 1) 0 = M_2 (b + 1) 0 := (m_16 (b + 1) 0 (by omega))
        exact L_20 _ 0 M_15 (by omega) (by omega) (fun _ _ _ => rfl) g_17 rfl
      · refine g_aload_n (n := 14) hx 1 (dq tX8_passDay 7 rfl) rfl rfl ?_
        refine g_aload_n (n := 15) hx 1 (dq tX8_passDay 8 rfl) rfl rfl ?_
        refine g_getR (n := 18) hx glX8_12 (sX8_1 hb) (dq tX8_passDay 9 rfl) rfl ?_
        refine g_getR (n := 21) hx glX8_198 (sX6_12 (iX8_1 hb)) (dq tX8_passDay 10 rfl) rfl ?_
        refine g_iload_n (n := 22) hx 0 (dq tX8_passDay 11 rfl) rfl rfl ?_
        refine g_iald (n := 23) (q := i_1.toNat) hx (aX6_12 (b := b + 1) (iX8_1 hb)) (dq tX8_passDay 12 rfl) rfl (by omega) (by omega) (by omega) rfl (fun h_60l h_60u => ?_)
        have e_61 : M_2 37 1 = M 37 1 := (f_5 37 1 (by omega))
        have e_62 : M_2 (b + 1) 0 = M (b + 1) 0 := (f_5 (b + 1) 0 (by omega))
        refine g_iv (fun h_64 => ?_)
        have h_64v : (0 : Int) ≤ M_2 37 1 ∧ M_2 37 1 ≤ 6 := h_64 37 1
        have h_64l : (0 : Int) ≤ M_2 37 3 ∧ M_2 37 3 ≤ 12 := h_64 37 3
        clear h_64
        have h_63 := g_6.2.2.2.1 i_1.toNat (by omega)
        refine g_callVv (n := 26) (As := [vI (M_2 (b + 1 + 7) i_1.toNat)]) (rest := []) hx (ctX8_passLog Γ M_2 b hb (M_2 (b + 1 + 7) i_1.toNat) (by omega) (by omega) (by omega) g_6) mlX8_201 (obX8 hb) (dq tX8_passDay 13 rfl) rfl (Nat.le_of_ble_eq_true rfl) (Nat.le_of_ble_eq_true rfl) (Nat.le_of_ble_eq_true rfl) rfl (fun M_66 p_68 => ?_)
        obtain ⟨f_69, g_70⟩ := p_68
        refine g_iinc (n := 29) (lv' := [(1, vI (i_1 + 1)), (0, aR Γ b)]) hx 0 (dq tX8_passDay 14 rfl) rfl (by decide) rfl rfl ?_
        refine g_goto (n := 2) hx (dq tX8_passDay 15 rfl) (by decide) ?_
        have e_72 : M_66 37 1 = M_2 37 1 := (f_69 37 1 (by omega))
        have e_73 : M_66 37 3 = M_2 37 3 := (f_69 37 3 (by omega))
        have e_74 : M_66 (b + 1) 0 = M_2 (b + 1) 0 := (f_69 (b + 1) 0 (by omega))
        exact ih_4 _ (by omega) (i_1 + 1) M_66 (by omega) (by omega) (fun u_ v_ huv_ => ((f_69 u_ v_ (by omega)).trans (f_5 u_ v_ (by omega)))) g_70 rfl
  exact L_3 _ 0 M (by omega) (by omega) (fun _ _ _ => rfl) gd0 rfl

abbrev qctX9_days2 (M : zM) (n : Int) (z : Int) (M' : zM) : Prop := (∀ u_ v_, (u_ < 0 + 3 ∨ 0 + 7 ≤ u_) ∧ (u_ ≠ 45 ∨ v_ ≠ 8) ∧ (u_ < 45 + 3 ∨ 45 + 11 ≤ u_) ∧ (u_ ≠ 45 + 11 ∨ v_ ≠ 1) ∧ (u_ ≠ 45 + 11 ∨ v_ ≠ 4) ∧ (u_ ≠ 45 + 11 ∨ v_ ≠ 11) ∧ (u_ < 45 + 12 ∨ 45 + 28 ≤ u_) ∧ (u_ < 73 ∨ 73 + 28 ≤ u_) ∧ (u_ ≠ 45 + 1 ∨ v_ ≠ 0) → M' u_ v_ = M u_ v_) ∧ Gd M' 37 (45 + 1) ∧ ((0 < M 37 0 ∧ 1 ≤ n ∧ n ≤ 60 ∧ M (45 + 1) 0 + n ≤ 9999 ∧ z = M (45 + 1) 0 + n ∧ M' (45 + 1) 0 = M (45 + 1) 0 + n) ∨ (¬ (0 < M 37 0 ∧ 1 ≤ n ∧ n ≤ 60 ∧ M (45 + 1) 0 + n ≤ 9999) ∧ z = -2 ∧ M' (45 + 1) 0 = M (45 + 1) 0))
set_option maxHeartbeats 4000000 in
set_option maxRecDepth 100000 in
theorem ctX9_days2 (Γ : Gam) (M : zM) (n : Int) (hnl : (-2147483648) ≤ n) (hnu : n ≤ 2147483647) (gd0 : Gd M 37 (45 + 1)) : CtI Γ yX9_days cX9_days 3 (some .int) 6 151 [aR Γ 0, vI n] M (qctX9_days2 M n) := by
  refine met_i (by decide) (Nat.le_of_ble_eq_true rfl) (fun x hx hr => ?_)
  show G Γ x 3 (QI Γ x (qctX9_days2 M n)) M 0 [(0, aR Γ 0), (1, vI n)] []
  refine g_aload_n (n := 1) hx 0 (dq tX9_days 0 rfl) rfl rfl ?_
  refine g_callVi (n := 4) (As := []) (rest := []) hx (ctX9_hasRiver2 Γ M ) mlX9_126 (obX9 (by decide)) (dq tX9_days 1 rfl) rfl (Nat.le_of_ble_eq_true rfl) (Nat.le_of_ble_eq_true rfl) (Nat.le_of_ble_eq_true rfl) rfl (fun z_1 M_2 h_3 p_4 => ?_)
  obtain ⟨rfl, h_6, h_7, h_8⟩ := p_4
  refine g_if_eq (n := 7) (t := 36) hx (dq tX9_days 2 rfl) (by decide) rfl h_3 (fun c_9 => ?_) (fun c_9 => ?_)
  · refine g_bipush (n := 38) hx (dq tX9_days 17 rfl) rfl (by decide) ?_
    exact g_iret hx hr (dq tX9_days 18 rfl) ⟨by decide, by decide⟩ ⟨(fun _ _ _ => rfl), gd0, (by omega)⟩
  · refine g_iload_n (n := 8) hx 1 (dq tX9_days 3 rfl) rfl rfl ?_
    refine g_iconst (n := 9) hx (dq tX9_days 4 rfl) rfl ?_
    refine g_icmp_lt (n := 12) (t := 36) hx (dq tX9_days 5 rfl) (by decide) rfl (zrI hnl hnu (by decide) (by decide)) ⟨by decide, by decide⟩ (fun c_10 => ?_) (fun c_10 => ?_)
    · refine g_bipush (n := 38) hx (dq tX9_days 17 rfl) rfl (by decide) ?_
      exact g_iret hx hr (dq tX9_days 18 rfl) ⟨by decide, by decide⟩ ⟨(fun _ _ _ => rfl), gd0, (by omega)⟩
    · refine g_iload_n (n := 13) hx 1 (dq tX9_days 6 rfl) rfl rfl ?_
      refine g_bipush (n := 15) hx (dq tX9_days 7 rfl) rfl (by decide) ?_
      refine g_icmp_gt (n := 18) (t := 36) hx (dq tX9_days 8 rfl) (by decide) rfl (zrI hnl hnu (by decide) (by decide)) ⟨by decide, by decide⟩ (fun c_11 => ?_) (fun c_11 => ?_)
      · refine g_bipush (n := 38) hx (dq tX9_days 17 rfl) rfl (by decide) ?_
        exact g_iret hx hr (dq tX9_days 18 rfl) ⟨by decide, by decide⟩ ⟨(fun _ _ _ => rfl), gd0, (by omega)⟩
      · refine g_aload_n (n := 19) hx 0 (dq tX9_days 9 rfl) rfl rfl ?_
        refine g_getR (n := 22) hx glX9_47 (sX9_5 (by decide)) (dq tX9_days 10 rfl) rfl ?_
        refine g_getR (n := 25) hx glX9_100 (sX8_1 (by decide)) (dq tX9_days 11 rfl) rfl ?_
        refine g_getI (n := 28) hx glX9_297 (sX6_0 (iX8_1 (by decide))) (dq tX9_days 12 rfl) rfl (fun h_12l h_12u => ?_)
        refine g_iload_n (n := 29) hx 1 (dq tX9_days 13 rfl) rfl rfl ?_
        refine g_iadd (n := 30) hx (dq tX9_days 14 rfl) rfl ?_
        refine g_sipush (n := 33) hx (dq tX9_days 15 rfl) rfl (by decide) ?_
        refine g_icmp_le (n := 36) (t := 39) hx (dq tX9_days 16 rfl) (by decide) rfl ⟨by omega, by omega⟩ ⟨by decide, by decide⟩ (fun c_13 => ?_) (fun c_13 => ?_)
        · refine g_iconst (n := 40) hx (dq tX9_days 19 rfl) rfl ?_
          refine g_istore_n (n := 41) (lv' := [(2, vI 0), (0, aR Γ 0), (1, vI n)]) hx (dq tX9_days 20 rfl) (by decide) rfl rfl ?_
          have L_16 : ∀ (n_ : Nat) (i_14 : Int) (M_15 : zM), (0 ≤ i_14) → (i_14 ≤ 60) → (∀ u_ v_, (u_ ≠ 45 ∨ v_ ≠ 8) ∧ (u_ < 45 + 3 ∨ 45 + 11 ≤ u_) ∧ (u_ ≠ 45 + 11 ∨ v_ ≠ 1) ∧ (u_ < 45 + 12 ∨ 45 + 28 ≤ u_) ∧ (u_ ≠ 45 + 1 ∨ v_ ≠ 0) → M_15 u_ v_ = M u_ v_) → (Gd M_15 37 (45 + 1)) → (M_15 (45 + 1) 0 = M (45 + 1) 0 + i_14) → (i_14 ≤ n) → ((60 - i_14).toNat = n_) → G Γ x 3 (QI Γ x (qctX9_days2 M n)) M_15 41 [(2, vI i_14), (0, aR Γ 0), (1, vI n)] [] := by
            intro n_
            induction n_ using Nat.strongRecOn with
            | _ n_ ih_17 =>
              intro i_14 M_15 h_23 h_24 f_18 g_19 h_21 h_22 hm_20
              refine g_iload_n (n := 42) hx 0 (dq tX9_days 21 rfl) rfl rfl ?_
              refine g_iload_n (n := 43) hx 2 (dq tX9_days 22 rfl) rfl rfl ?_
              refine g_icmp_ge (n := 46) (t := 76) hx (dq tX9_days 23 rfl) (by decide) rfl ⟨by omega, by omega⟩ (zrI hnl hnu (by decide) (by decide)) (fun c_25 => ?_) (fun c_25 => ?_)
              · refine g_aload_n (n := 77) hx 1 (dq tX9_days 36 rfl) rfl rfl ?_
                refine g_getR (n := 80) hx glX9_47 (sX9_5 (by decide)) (dq tX9_days 37 rfl) rfl ?_
                refine g_getR (n := 83) hx glX9_100 (sX8_1 (by decide)) (dq tX9_days 38 rfl) rfl ?_
                refine g_getI (n := 86) hx glX9_297 (sX6_0 (iX8_1 (by decide))) (dq tX9_days 39 rfl) rfl (fun h_26l h_26u => ?_)
                have e_27 : M_15 37 1 = M 37 1 := (f_18 37 1 (by omega))
                have e_28 : M_15 37 3 = M 37 3 := (f_18 37 3 (by omega))
                exact g_iret hx hr (dq tX9_days 40 rfl) (zrI h_26l h_26u (by decide) (by decide)) ⟨(fun u_ v_ huv_ => (f_18 u_ v_ (by omega))), g_19, (by omega)⟩
              · refine g_aload_n (n := 47) hx 1 (dq tX9_days 24 rfl) rfl rfl ?_
                refine g_getR (n := 50) hx glX9_47 (sX9_5 (by decide)) (dq tX9_days 25 rfl) rfl ?_
                have e_29 : M_15 37 1 = M 37 1 := (f_18 37 1 (by omega))
                have e_30 : M_15 37 3 = M 37 3 := (f_18 37 3 (by omega))
                refine g_callVv (n := 53) (As := []) (rest := []) hx (ctX8_passDay2 Γ M_15 45 (by decide) g_19) mlX9_300 (obX8 (by decide)) (dq tX9_days 26 rfl) rfl (Nat.le_of_ble_eq_true rfl) (Nat.le_of_ble_eq_true rfl) (Nat.le_of_ble_eq_true rfl) rfl (fun M_32 p_34 => ?_)
                obtain ⟨f_35, g_36, h_37⟩ := p_34
                refine g_aload_n (n := 54) hx 1 (dq tX9_days 27 rfl) rfl rfl ?_
                refine g_getR (n := 57) hx glX9_47 (sX9_5 (by decide)) (dq tX9_days 28 rfl) rfl ?_
                refine g_getR (n := 60) hx glX9_109 (sX8_2 (by decide)) (dq tX9_days 29 rfl) rfl ?_
                refine g_aload_n (n := 61) hx 1 (dq tX9_days 30 rfl) rfl rfl ?_
                refine g_getR (n := 64) hx glX9_47 (sX9_5 (by decide)) (dq tX9_days 31 rfl) rfl ?_
                refine g_getR (n := 67) hx glX9_100 (sX8_1 (by decide)) (dq tX9_days 32 rfl) rfl ?_
                have e_39 : M_32 37 1 = M_15 37 1 := (f_35 37 1 (by omega))
                have e_40 : M_32 37 3 = M_15 37 3 := (f_35 37 3 (by omega))
                refine g_callVv (n := 70) (As := [aR Γ (45 + 1)]) (rest := []) hx (ctX0_keepPlaces Γ M_32 (45 + 11) (iX8_2 (by decide)) (45 + 1) (iX8_1 (by decide))) mlX9_303 (obX0 (iX8_2 (by decide))) (dq tX9_days 33 rfl) rfl (Nat.le_of_ble_eq_true rfl) (Nat.le_of_ble_eq_true rfl) (Nat.le_of_ble_eq_true rfl) rfl (fun M_42 p_44 => ?_)
                have f_45 := p_44
                have g_46 : Gd M_42 37 (45 + 1) := Gd.frame g_36 (fun c j hcj => f_45 c j (by omega))
                refine g_iinc (n := 73) (lv' := [(2, vI (i_14 + 1)), (0, aR Γ 0), (1, vI n)]) hx 0 (dq tX9_days 34 rfl) rfl (by decide) rfl rfl ?_
                refine g_goto (n := 41) hx (dq tX9_days 35 rfl) (by decide) ?_
                have e_47 : M_42 37 1 = M_32 37 1 := (f_45 37 1 (by omega))
                have e_48 : M_42 37 3 = M_32 37 3 := (f_45 37 3 (by omega))
                have e_49 : M_42 (45 + 1) 0 = M_32 (45 + 1) 0 := (f_45 (45 + 1) 0 (by omega))
                exact ih_17 _ (by omega) (i_14 + 1) M_42 (by omega) (by omega) (fun u_ v_ huv_ => (((f_45 u_ v_ (by omega)).trans (f_35 u_ v_ (by omega))).trans (f_18 u_ v_ (by omega)))) g_46 (by first | assumption | omega) (by first | assumption | omega) rfl
          exact L_16 _ 0 M (by omega) (by omega) (fun _ _ _ => rfl) gd0 (by first | assumption | omega) (by first | assumption | omega) rfl
        · refine g_bipush (n := 38) hx (dq tX9_days 17 rfl) rfl (by decide) ?_
          exact g_iret hx hr (dq tX9_days 18 rfl) ⟨by decide, by decide⟩ ⟨(fun _ _ _ => rfl), gd0, (by omega)⟩

abbrev qctX0_keepSight2 (M : zM) (k : Nat) (log : Int) (place : Int) (village : Int) (day : Int) (M' : zM) : Prop := (∀ u_ v_, (u_ ≠ k ∨ v_ ≠ 6) ∧ u_ ≠ k + 4 ∧ u_ ≠ k + 5 ∧ u_ ≠ k + 6 ∧ u_ ≠ k + 7 → M' u_ v_ = M u_ v_) ∧ (M' k 6 = M k 6 + 1)
set_option maxHeartbeats 4000000 in
set_option maxRecDepth 100000 in
theorem ctX0_keepSight2 (Γ : Gam) (M : zM) (k : Nat) (hk : isX0 k) (log : Int) (hlogl : (-2147483648) ≤ log) (hlogu : log ≤ 2147483647) (place : Int) (hplacel : (-2147483648) ≤ place) (hplaceu : place ≤ 2147483647) (village : Int) (hvillagel : (-2147483648) ≤ village) (hvillageu : village ≤ 2147483647) (day : Int) (hdayl : (-2147483648) ≤ day) (hdayu : day ≤ 2147483647) (pre0 : M k 6 < 20) : CtV Γ yX0_keepSight cX0_keepSight 5 none 0 0 [aR Γ k, vI log, vI place, vI village, vI day] M (qctX0_keepSight2 M k log place village day) := by
  refine met_v (by decide) (Nat.le_of_ble_eq_true rfl) (fun x hx hr => ?_)
  show G Γ x 5 (QV Γ x (qctX0_keepSight2 M k log place village day)) M 0 [(0, aR Γ k), (1, vI log), (2, vI place), (3, vI village), (4, vI day)] []
  refine g_aload_n (n := 1) hx 0 (dq tX0_keepSight 0 rfl) rfl rfl ?_
  refine g_getR (n := 4) hx glX0_21 (sX0_7 hk) (dq tX0_keepSight 1 rfl) rfl ?_
  refine g_aload_n (n := 5) hx 0 (dq tX0_keepSight 2 rfl) rfl rfl ?_
  refine g_getI (n := 8) hx glX0_61 (sX0_6 hk) (dq tX0_keepSight 3 rfl) rfl (fun h_1l h_1u => ?_)
  refine g_iload_n (n := 9) hx 1 (dq tX0_keepSight 4 rfl) rfl rfl ?_
  refine g_iast (n := 10) (q := (M k 6).toNat) hx (aX0_7 (b := k) hk) (dq tX0_keepSight 5 rfl) rfl (by omega) (by omega) (by omega) rfl (by omega) (by omega) (fun M_2 m_3e m_3 => ?_)
  refine g_aload_n (n := 11) hx 0 (dq tX0_keepSight 6 rfl) rfl rfl ?_
  refine g_getR (n := 14) hx glX0_24 (sX0_8 hk) (dq tX0_keepSight 7 rfl) rfl ?_
  refine g_aload_n (n := 15) hx 0 (dq tX0_keepSight 8 rfl) rfl rfl ?_
  refine g_getI (n := 18) hx glX0_61 (sX0_6 hk) (dq tX0_keepSight 9 rfl) rfl (fun h_4l h_4u => ?_)
  have e_5 : M_2 k 6 = M k 6 := (m_3 k 6 (by omega))
  refine g_iload_n (n := 19) hx 2 (dq tX0_keepSight 10 rfl) rfl rfl ?_
  refine g_iast (n := 20) (q := (M_2 k 6).toNat) hx (aX0_8 (b := k) hk) (dq tX0_keepSight 11 rfl) rfl (by omega) (by omega) (by omega) rfl (by omega) (by omega) (fun M_6 m_7e m_7 => ?_)
  refine g_aload_n (n := 21) hx 0 (dq tX0_keepSight 12 rfl) rfl rfl ?_
  refine g_getR (n := 24) hx glX0_27 (sX0_9 hk) (dq tX0_keepSight 13 rfl) rfl ?_
  refine g_aload_n (n := 25) hx 0 (dq tX0_keepSight 14 rfl) rfl rfl ?_
  refine g_getI (n := 28) hx glX0_61 (sX0_6 hk) (dq tX0_keepSight 15 rfl) rfl (fun h_8l h_8u => ?_)
  have e_9 : M_6 k 6 = M_2 k 6 := (m_7 k 6 (by omega))
  refine g_iload_n (n := 29) hx 3 (dq tX0_keepSight 16 rfl) rfl rfl ?_
  refine g_iast (n := 30) (q := (M_6 k 6).toNat) hx (aX0_9 (b := k) hk) (dq tX0_keepSight 17 rfl) rfl (by omega) (by omega) (by omega) rfl (by omega) (by omega) (fun M_10 m_11e m_11 => ?_)
  refine g_aload_n (n := 31) hx 0 (dq tX0_keepSight 18 rfl) rfl rfl ?_
  refine g_getR (n := 34) hx glX0_30 (sX0_10 hk) (dq tX0_keepSight 19 rfl) rfl ?_
  refine g_aload_n (n := 35) hx 0 (dq tX0_keepSight 20 rfl) rfl rfl ?_
  refine g_getI (n := 38) hx glX0_61 (sX0_6 hk) (dq tX0_keepSight 21 rfl) rfl (fun h_12l h_12u => ?_)
  have e_13 : M_10 k 6 = M_6 k 6 := (m_11 k 6 (by omega))
  refine g_iload (n := 40) hx 4 (dq tX0_keepSight 22 rfl) rfl rfl ?_
  refine g_iast (n := 41) (q := (M_10 k 6).toNat) hx (aX0_10 (b := k) hk) (dq tX0_keepSight 23 rfl) rfl (by omega) (by omega) (by omega) rfl (by omega) (by omega) (fun M_14 m_15e m_15 => ?_)
  refine g_aload_n (n := 42) hx 0 (dq tX0_keepSight 24 rfl) rfl rfl ?_
  refine g_dup (n := 43) hx (dq tX0_keepSight 25 rfl) rfl rfl ?_
  refine g_getI (n := 46) hx glX0_61 (sX0_6 hk) (dq tX0_keepSight 26 rfl) rfl (fun h_16l h_16u => ?_)
  have e_17 : M_14 k 6 = M_10 k 6 := (m_15 k 6 (by omega))
  refine g_iconst (n := 47) hx (dq tX0_keepSight 27 rfl) rfl ?_
  refine g_iadd (n := 48) hx (dq tX0_keepSight 28 rfl) rfl ?_
  refine g_putI (n := 51) hx plX0_61 (sX0_6 hk) (dq tX0_keepSight 29 rfl) rfl (by omega) (by omega) (fun M_18 m_19e m_19 => ?_)
  exact g_vret hx hr (dq tX0_keepSight 30 rfl) ⟨(fun u_ v_ huv_ => (((((m_19 u_ v_ (by omega)).trans (m_15 u_ v_ (by omega))).trans (m_11 u_ v_ (by omega))).trans (m_7 u_ v_ (by omega))).trans (m_3 u_ v_ (by omega)))), (by omega)⟩

abbrev qctX9_sight2 (M : zM) (log : Int) (place : Int) (village : Int) (z : Int) (M' : zM) : Prop := (∀ u_ v_, (u_ < 0 + 3 ∨ 0 + 7 ≤ u_) ∧ (u_ ≠ 45 ∨ v_ ≠ 8) ∧ (u_ < 45 + 3 ∨ 45 + 11 ≤ u_) ∧ (u_ ≠ 45 + 11 ∨ v_ ≠ 1) ∧ (u_ ≠ 45 + 11 ∨ v_ ≠ 4) ∧ (u_ ≠ 45 + 11 ∨ v_ ≠ 11) ∧ (u_ < 45 + 12 ∨ 45 + 28 ≤ u_) ∧ (u_ < 73 ∨ 73 + 28 ≤ u_) ∧ (u_ ≠ 45 + 11 ∨ v_ ≠ 6) → M' u_ v_ = M u_ v_) ∧ Gd M' 37 (45 + 1) ∧ ((log = -1 ∧ z = 0 ∧ M' (45 + 11) 6 = 0) ∨ (log ≠ -1 ∧ ((0 ≤ log ∧ log < M 37 3 ∧ 0 ≤ place ∧ place ≤ 5 ∧ (village = -1 ∨ (0 ≤ village ∧ village < M 37 1)) ∧ M (45 + 11) 6 < 20 ∧ z = M (45 + 11) 6 + 1 ∧ M' (45 + 11) 6 = M (45 + 11) 6 + 1) ∨ (¬ (0 ≤ log ∧ log < M 37 3 ∧ 0 ≤ place ∧ place ≤ 5 ∧ (village = -1 ∨ (0 ≤ village ∧ village < M 37 1)) ∧ M (45 + 11) 6 < 20) ∧ z = -2 ∧ M' (45 + 11) 6 = M (45 + 11) 6))))
set_option maxHeartbeats 4000000 in
set_option maxRecDepth 100000 in
theorem ctX9_sight2 (Γ : Gam) (M : zM) (log : Int) (hlogl : (-2147483648) ≤ log) (hlogu : log ≤ 2147483647) (place : Int) (hplacel : (-2147483648) ≤ place) (hplaceu : place ≤ 2147483647) (village : Int) (hvillagel : (-2147483648) ≤ village) (hvillageu : village ≤ 2147483647) (gd0 : Gd M 37 (45 + 1)) : CtI Γ yX9_sight cX9_sight 4 (some .int) 1 24 [aR Γ 0, vI log, vI place, vI village] M (qctX9_sight2 M log place village) := by
  refine met_i (by decide) (Nat.le_of_ble_eq_true rfl) (fun x hx hr => ?_)
  show G Γ x 4 (QI Γ x (qctX9_sight2 M log place village)) M 0 [(0, aR Γ 0), (1, vI log), (2, vI place), (3, vI village)] []
  refine g_iload_n (n := 1) hx 1 (dq tX9_sight 0 rfl) rfl rfl ?_
  refine g_iconst (n := 2) hx (dq tX9_sight 1 rfl) rfl ?_
  refine g_icmp_ne (n := 5) (t := 18) hx (dq tX9_sight 2 rfl) (by decide) rfl (zrI hlogl hlogu (by decide) (by decide)) ⟨by decide, by decide⟩ (fun c_1 => ?_) (fun c_1 => ?_)
  · refine g_aload_n (n := 19) hx 0 (dq tX9_sight 10 rfl) rfl rfl ?_
    refine g_iload_n (n := 20) hx 1 (dq tX9_sight 11 rfl) rfl rfl ?_
    refine g_callVi (n := 23) (As := [vI log]) (rest := []) hx (ctX9_isLog2 Γ M log (by omega) (by omega)) mlX9_180 (obX9 (by decide)) (dq tX9_sight 12 rfl) rfl (Nat.le_of_ble_eq_true rfl) (Nat.le_of_ble_eq_true rfl) (Nat.le_of_ble_eq_true rfl) rfl (fun z_2 M_3 h_4 p_5 => ?_)
    obtain ⟨rfl, h_7, h_8, h_9⟩ := p_5
    refine g_if_eq (n := 26) (t := 64) hx (dq tX9_sight 13 rfl) (by decide) rfl h_4 (fun c_10 => ?_) (fun c_10 => ?_)
    · refine g_bipush (n := 66) hx (dq tX9_sight 32 rfl) rfl (by decide) ?_
      exact g_iret hx hr (dq tX9_sight 33 rfl) ⟨by decide, by decide⟩ ⟨(fun _ _ _ => rfl), gd0, (by omega)⟩
    · refine g_iload_n (n := 27) hx 2 (dq tX9_sight 14 rfl) rfl rfl ?_
      refine g_if_lt (n := 30) (t := 64) hx (dq tX9_sight 15 rfl) (by decide) rfl (zrI hplacel hplaceu (by decide) (by decide)) (fun c_11 => ?_) (fun c_11 => ?_)
      · refine g_bipush (n := 66) hx (dq tX9_sight 32 rfl) rfl (by decide) ?_
        exact g_iret hx hr (dq tX9_sight 33 rfl) ⟨by decide, by decide⟩ ⟨(fun _ _ _ => rfl), gd0, (by omega)⟩
      · refine g_iload_n (n := 31) hx 2 (dq tX9_sight 16 rfl) rfl rfl ?_
        refine g_bipush (n := 33) hx (dq tX9_sight 17 rfl) rfl (by decide) ?_
        refine g_icmp_ge (n := 36) (t := 64) hx (dq tX9_sight 18 rfl) (by decide) rfl (zrI hplacel hplaceu (by decide) (by decide)) ⟨by decide, by decide⟩ (fun c_12 => ?_) (fun c_12 => ?_)
        · refine g_bipush (n := 66) hx (dq tX9_sight 32 rfl) rfl (by decide) ?_
          exact g_iret hx hr (dq tX9_sight 33 rfl) ⟨by decide, by decide⟩ ⟨(fun _ _ _ => rfl), gd0, (by omega)⟩
        · refine g_iload_n (n := 37) hx 3 (dq tX9_sight 19 rfl) rfl rfl ?_
          refine g_iconst (n := 38) hx (dq tX9_sight 20 rfl) rfl ?_
          refine g_icmp_eq (n := 41) (t := 49) hx (dq tX9_sight 21 rfl) (by decide) rfl (zrI hvillagel hvillageu (by decide) (by decide)) ⟨by decide, by decide⟩ (fun c_13 => ?_) (fun c_13 => ?_)
          · refine g_aload_n (n := 50) hx 0 (dq tX9_sight 26 rfl) rfl rfl ?_
            refine g_getR (n := 53) hx glX9_47 (sX9_5 (by decide)) (dq tX9_sight 27 rfl) rfl ?_
            refine g_getR (n := 56) hx glX9_109 (sX8_2 (by decide)) (dq tX9_sight 28 rfl) rfl ?_
            refine g_getI (n := 59) hx glX9_355 (sX0_6 (iX8_2 (by decide))) (dq tX9_sight 29 rfl) rfl (fun h_14l h_14u => ?_)
            refine g_bipush (n := 61) hx (dq tX9_sight 30 rfl) rfl (by decide) ?_
            refine g_icmp_lt (n := 64) (t := 67) hx (dq tX9_sight 31 rfl) (by decide) rfl (zrI h_14l h_14u (by decide) (by decide)) ⟨by decide, by decide⟩ (fun c_15 => ?_) (fun c_15 => ?_)
            · refine g_aload_n (n := 68) hx 0 (dq tX9_sight 34 rfl) rfl rfl ?_
              refine g_getR (n := 71) hx glX9_47 (sX9_5 (by decide)) (dq tX9_sight 35 rfl) rfl ?_
              refine g_getR (n := 74) hx glX9_109 (sX8_2 (by decide)) (dq tX9_sight 36 rfl) rfl ?_
              refine g_iload_n (n := 75) hx 1 (dq tX9_sight 37 rfl) rfl rfl ?_
              refine g_iload_n (n := 76) hx 2 (dq tX9_sight 38 rfl) rfl rfl ?_
              refine g_iload_n (n := 77) hx 3 (dq tX9_sight 39 rfl) rfl rfl ?_
              refine g_aload_n (n := 78) hx 0 (dq tX9_sight 40 rfl) rfl rfl ?_
              refine g_getR (n := 81) hx glX9_47 (sX9_5 (by decide)) (dq tX9_sight 41 rfl) rfl ?_
              refine g_getR (n := 84) hx glX9_100 (sX8_1 (by decide)) (dq tX9_sight 42 rfl) rfl ?_
              refine g_getI (n := 87) hx glX9_297 (sX6_0 (iX8_1 (by decide))) (dq tX9_sight 43 rfl) rfl (fun h_16l h_16u => ?_)
              refine g_callVv (n := 90) (As := [vI log, vI place, vI village, vI (M (45 + 1) 0)]) (rest := []) hx (ctX0_keepSight2 Γ M (45 + 11) (iX8_2 (by decide)) log (by omega) (by omega) place (by omega) (by omega) village (by omega) (by omega) (M (45 + 1) 0) (by omega) (by omega) (by omega)) mlX9_358 (obX0 (iX8_2 (by decide))) (dq tX9_sight 44 rfl) rfl (Nat.le_of_ble_eq_true rfl) (Nat.le_of_ble_eq_true rfl) (Nat.le_of_ble_eq_true rfl) rfl (fun M_18 p_20 => ?_)
              obtain ⟨f_21, h_22⟩ := p_20
              have g_23 : Gd M_18 37 (45 + 1) := Gd.frame gd0 (fun c j hcj => f_21 c j (by omega))
              refine g_aload_n (n := 91) hx 0 (dq tX9_sight 45 rfl) rfl rfl ?_
              refine g_getR (n := 94) hx glX9_47 (sX9_5 (by decide)) (dq tX9_sight 46 rfl) rfl ?_
              refine g_getR (n := 97) hx glX9_109 (sX8_2 (by decide)) (dq tX9_sight 47 rfl) rfl ?_
              refine g_getI (n := 100) hx glX9_355 (sX0_6 (iX8_2 (by decide))) (dq tX9_sight 48 rfl) rfl (fun h_24l h_24u => ?_)
              have e_25 : M_18 37 1 = M 37 1 := (f_21 37 1 (by omega))
              have e_26 : M_18 37 3 = M 37 3 := (f_21 37 3 (by omega))
              exact g_iret hx hr (dq tX9_sight 49 rfl) (zrI h_24l h_24u (by decide) (by decide)) ⟨(fun u_ v_ huv_ => (f_21 u_ v_ (by omega))), g_23, (by omega)⟩
            · refine g_bipush (n := 66) hx (dq tX9_sight 32 rfl) rfl (by decide) ?_
              exact g_iret hx hr (dq tX9_sight 33 rfl) ⟨by decide, by decide⟩ ⟨(fun _ _ _ => rfl), gd0, (by omega)⟩
          · refine g_aload_n (n := 42) hx 0 (dq tX9_sight 22 rfl) rfl rfl ?_
            refine g_iload_n (n := 43) hx 3 (dq tX9_sight 23 rfl) rfl rfl ?_
            refine g_callVi (n := 46) (As := [vI village]) (rest := []) hx (ctX9_isVillage2 Γ M village (by omega) (by omega)) mlX9_136 (obX9 (by decide)) (dq tX9_sight 24 rfl) rfl (Nat.le_of_ble_eq_true rfl) (Nat.le_of_ble_eq_true rfl) (Nat.le_of_ble_eq_true rfl) rfl (fun z_27 M_28 h_29 p_30 => ?_)
            obtain ⟨rfl, h_32, h_33, h_34⟩ := p_30
            refine g_if_eq (n := 49) (t := 64) hx (dq tX9_sight 25 rfl) (by decide) rfl h_29 (fun c_35 => ?_) (fun c_35 => ?_)
            · refine g_bipush (n := 66) hx (dq tX9_sight 32 rfl) rfl (by decide) ?_
              exact g_iret hx hr (dq tX9_sight 33 rfl) ⟨by decide, by decide⟩ ⟨(fun _ _ _ => rfl), gd0, (by omega)⟩
            · refine g_aload_n (n := 50) hx 0 (dq tX9_sight 26 rfl) rfl rfl ?_
              refine g_getR (n := 53) hx glX9_47 (sX9_5 (by decide)) (dq tX9_sight 27 rfl) rfl ?_
              refine g_getR (n := 56) hx glX9_109 (sX8_2 (by decide)) (dq tX9_sight 28 rfl) rfl ?_
              refine g_getI (n := 59) hx glX9_355 (sX0_6 (iX8_2 (by decide))) (dq tX9_sight 29 rfl) rfl (fun h_36l h_36u => ?_)
              refine g_bipush (n := 61) hx (dq tX9_sight 30 rfl) rfl (by decide) ?_
              refine g_icmp_lt (n := 64) (t := 67) hx (dq tX9_sight 31 rfl) (by decide) rfl (zrI h_36l h_36u (by decide) (by decide)) ⟨by decide, by decide⟩ (fun c_37 => ?_) (fun c_37 => ?_)
              · refine g_aload_n (n := 68) hx 0 (dq tX9_sight 34 rfl) rfl rfl ?_
                refine g_getR (n := 71) hx glX9_47 (sX9_5 (by decide)) (dq tX9_sight 35 rfl) rfl ?_
                refine g_getR (n := 74) hx glX9_109 (sX8_2 (by decide)) (dq tX9_sight 36 rfl) rfl ?_
                refine g_iload_n (n := 75) hx 1 (dq tX9_sight 37 rfl) rfl rfl ?_
                refine g_iload_n (n := 76) hx 2 (dq tX9_sight 38 rfl) rfl rfl ?_
                refine g_iload_n (n := 77) hx 3 (dq tX9_sight 39 rfl) rfl rfl ?_
                refine g_aload_n (n := 78) hx 0 (dq tX9_sight 40 rfl) rfl rfl ?_
                refine g_getR (n := 81) hx glX9_47 (sX9_5 (by decide)) (dq tX9_sight 41 rfl) rfl ?_
                refine g_getR (n := 84) hx glX9_100 (sX8_1 (by decide)) (dq tX9_sight 42 rfl) rfl ?_
                refine g_getI (n := 87) hx glX9_297 (sX6_0 (iX8_1 (by decide))) (dq tX9_sight 43 rfl) rfl (fun h_38l h_38u => ?_)
                refine g_callVv (n := 90) (As := [vI log, vI place, vI village, vI (M (45 + 1) 0)]) (rest := []) hx (ctX0_keepSight2 Γ M (45 + 11) (iX8_2 (by decide)) log (by omega) (by omega) place (by omega) (by omega) village (by omega) (by omega) (M (45 + 1) 0) (by omega) (by omega) (by omega)) mlX9_358 (obX0 (iX8_2 (by decide))) (dq tX9_sight 44 rfl) rfl (Nat.le_of_ble_eq_true rfl) (Nat.le_of_ble_eq_true rfl) (Nat.le_of_ble_eq_true rfl) rfl (fun M_40 p_42 => ?_)
                obtain ⟨f_43, h_44⟩ := p_42
                have g_45 : Gd M_40 37 (45 + 1) := Gd.frame gd0 (fun c j hcj => f_43 c j (by omega))
                refine g_aload_n (n := 91) hx 0 (dq tX9_sight 45 rfl) rfl rfl ?_
                refine g_getR (n := 94) hx glX9_47 (sX9_5 (by decide)) (dq tX9_sight 46 rfl) rfl ?_
                refine g_getR (n := 97) hx glX9_109 (sX8_2 (by decide)) (dq tX9_sight 47 rfl) rfl ?_
                refine g_getI (n := 100) hx glX9_355 (sX0_6 (iX8_2 (by decide))) (dq tX9_sight 48 rfl) rfl (fun h_46l h_46u => ?_)
                have e_47 : M_40 37 1 = M 37 1 := (f_43 37 1 (by omega))
                have e_48 : M_40 37 3 = M 37 3 := (f_43 37 3 (by omega))
                exact g_iret hx hr (dq tX9_sight 49 rfl) (zrI h_46l h_46u (by decide) (by decide)) ⟨(fun u_ v_ huv_ => (f_43 u_ v_ (by omega))), g_45, (by omega)⟩
              · refine g_bipush (n := 66) hx (dq tX9_sight 32 rfl) rfl (by decide) ?_
                exact g_iret hx hr (dq tX9_sight 33 rfl) ⟨by decide, by decide⟩ ⟨(fun _ _ _ => rfl), gd0, (by omega)⟩
  · refine g_aload_n (n := 6) hx 0 (dq tX9_sight 3 rfl) rfl rfl ?_
    refine g_getR (n := 9) hx glX9_47 (sX9_5 (by decide)) (dq tX9_sight 4 rfl) rfl ?_
    refine g_getR (n := 12) hx glX9_109 (sX8_2 (by decide)) (dq tX9_sight 5 rfl) rfl ?_
    refine g_iconst (n := 13) hx (dq tX9_sight 6 rfl) rfl ?_
    refine g_putI (n := 16) hx plX9_355 (sX0_6 (iX8_2 (by decide))) (dq tX9_sight 7 rfl) rfl (by omega) (by omega) (fun M_49 m_50e m_50 => ?_)
    have g_51 : Gd M_49 37 (45 + 1) := Gd.frame gd0 (fun c j hcj => m_50 c j (by omega))
    refine g_iconst (n := 17) hx (dq tX9_sight 8 rfl) rfl ?_
    have e_52 : M_49 37 1 = M 37 1 := (m_50 37 1 (by omega))
    have e_53 : M_49 37 3 = M 37 3 := (m_50 37 3 (by omega))
    exact g_iret hx hr (dq tX9_sight 9 rfl) ⟨by decide, by decide⟩ ⟨(fun u_ v_ huv_ => (m_50 u_ v_ (by omega))), g_51, (by omega)⟩
