abbrev qctX8_begin (M : zM) (b : Nat) (t : Nat) (M' : zM) : Prop := (∀ u_ v_, (u_ < b + 1 ∨ b + 11 ≤ u_) ∧ u_ ≠ b + 24 → M' u_ v_ = M u_ v_) ∧ Gd M' 37 (t + 1) ∧ (Gd M' 37 (b + 1))
set_option maxHeartbeats 4000000 in
set_option maxRecDepth 100000 in
theorem ctX8_begin (Γ : Gam) (M : zM) (b : Nat) (hb : isX8 b) (t : Nat) (ht : isX8 t) (pre0 : b ≠ t) (gd0 : Gd M 37 (t + 1)) : CtV Γ yX8_begin cX8_begin 2 none 3 102 [aR Γ b, aR Γ t] M (qctX8_begin M b t) := by
  refine met_v (by decide) (Nat.le_of_ble_eq_true rfl) (fun x hx hr => ?_)
  show G Γ x 2 (QV Γ x (qctX8_begin M b t)) M 0 [(0, aR Γ b), (1, aR Γ t)] []
  refine g_iv (fun hI0 => ?_)
  have hv1 : M (37) 1 ≤ 6 := (ivI hI0 (sX2_1 (by decide))).2
  have hv3 : M (37) 3 ≤ 12 := (ivI hI0 (sX2_3 (by decide))).2
  refine g_aload_n (n := 1) hx 0 (dq tX8_begin 0 rfl) rfl rfl ?_
  refine g_getR (n := 4) hx glX8_12 (sX8_1 hb) (dq tX8_begin 1 rfl) rfl ?_
  refine g_aload_n (n := 5) hx 1 (dq tX8_begin 2 rfl) rfl rfl ?_
  refine g_getR (n := 8) hx glX8_12 (sX8_1 ht) (dq tX8_begin 3 rfl) rfl ?_
  refine g_callVv (n := 11) (As := [aR Γ (t + 1)]) (rest := []) hx (ctX6_copy Γ M (b + 1) (iX8_1 hb) (t + 1) (iX8_1 ht) (by omega)) mlX8_47 (obX6 (iX8_1 hb)) (dq tX8_begin 4 rfl) rfl (Nat.le_of_ble_eq_true rfl) (Nat.le_of_ble_eq_true rfl) (Nat.le_of_ble_eq_true rfl) rfl (fun M_2 p_4 => ?_)
  obtain ⟨f_5, h_6, h_7, h_8, h_9, h_10, h_11, h_12, h_13, h_14, h_15, h_16, h_17, h_18, h_19, h_20⟩ := p_4
  have g_21 : Gd M_2 37 (t + 1) := Gd.frame gd0 (fun c j hcj => f_5 c j (by omega))
  refine g_aload_n (n := 12) hx 0 (dq tX8_begin 5 rfl) rfl rfl ?_
  refine g_getR (n := 15) hx glX8_25 (sX8_3 hb) (dq tX8_begin 6 rfl) rfl ?_
  refine g_iconst (n := 16) hx (dq tX8_begin 7 rfl) rfl ?_
  have e_22 : M_2 37 1 = M 37 1 := (f_5 37 1 (by omega))
  have e_23 : M_2 37 3 = M 37 3 := (f_5 37 3 (by omega))
  refine g_callSv (n := 19) (As := [aR Γ (b + 24), vI 0]) (rest := []) hx (ctfill_6_0 Γ M_2 (b + 24) (aX8_3 (b := b) hb) 0 (by decide) (by decide)) mlX8_51 (dq tX8_begin 8 rfl) rfl (Nat.le_of_ble_eq_true rfl) (Nat.le_of_ble_eq_true rfl) (Nat.le_of_ble_eq_true rfl) rfl (fun M_25 p_27 => ?_)
  have f_28 := p_27
  have g_29 : Gd M_25 37 (t + 1) := Gd.frame g_21 (fun c j hcj => f_28 c j (by omega))
  exact g_vret hx hr (dq tX8_begin 9 rfl) ⟨(fun u_ v_ huv_ => ((f_28 u_ v_ (by omega)).trans (f_5 u_ v_ (by omega)))), g_29, Gd.copy gd0 hv1 hv3 ((f_28 37 1 (by omega)).trans (f_5 37 1 (by omega))) ((f_28 37 3 (by omega)).trans (f_5 37 3 (by omega))) (((f_28 (b + 1) 5 (by omega))).trans ((h_11).trans (rfl))) (fun j _ => ((f_28 (37 + 1) j (by omega)).trans (f_5 (37 + 1) j (by omega)))) (fun j _ => ((f_28 (37 + 4) j (by omega)).trans (f_5 (37 + 4) j (by omega)))) (fun j hj => ((f_28 (b + 1 + 3) j (by omega))).trans ((h_14 j hj).trans (rfl))) (fun j hj => ((f_28 (b + 1 + 7) j (by omega))).trans ((h_18 j hj).trans (rfl)))⟩

abbrev qctX9_hasRiver (M : zM)  (z : Int) (M' : zM) : Prop := M = M' ∧ (z = 0 ∨ (z = 1 ∧ 0 < M 37 0))
set_option maxHeartbeats 4000000 in
set_option maxRecDepth 100000 in
theorem ctX9_hasRiver (Γ : Gam) (M : zM)   : CtI Γ yX9_hasRiver cX9_hasRiver 1 (some .boolean) 0 0 [aR Γ 0] M (qctX9_hasRiver M) := by
  refine met_i (by decide) (Nat.le_of_ble_eq_true rfl) (fun x hx hr => ?_)
  show G Γ x 1 (QI Γ x (qctX9_hasRiver M)) M 0 [(0, aR Γ 0)] []
  refine g_aload_n (n := 1) hx 0 (dq tX9_hasRiver 0 rfl) rfl rfl ?_
  refine g_getR (n := 4) hx glX9_47 (sX9_5 (by decide)) (dq tX9_hasRiver 1 rfl) rfl ?_
  refine g_getR (n := 7) hx glX9_51 (sX8_0 (by decide)) (dq tX9_hasRiver 2 rfl) rfl ?_
  refine g_getI (n := 10) hx glX9_400 (sX2_0 (by decide)) (dq tX9_hasRiver 3 rfl) rfl (fun h_1l h_1u => ?_)
  refine g_if_le (n := 13) (t := 17) hx (dq tX9_hasRiver 4 rfl) (by decide) rfl (zrI h_1l h_1u (by decide) (by decide)) (fun c_2 => ?_) (fun c_2 => ?_)
  · refine g_iconst (n := 18) hx (dq tX9_hasRiver 7 rfl) rfl ?_
    exact g_zret hx hr (dq tX9_hasRiver 8 rfl) (by omega) ⟨rfl, (by omega)⟩
  · refine g_iconst (n := 14) hx (dq tX9_hasRiver 5 rfl) rfl ?_
    refine g_goto (n := 18) hx (dq tX9_hasRiver 6 rfl) (by decide) ?_
    exact g_zret hx hr (dq tX9_hasRiver 8 rfl) (by omega) ⟨rfl, (by omega)⟩

abbrev qctX9_isBend (M : zM) (number : Int) (z : Int) (M' : zM) : Prop := M = M' ∧ (z = 0 ∨ (z = 1 ∧ 0 ≤ number ∧ number ≤ 8 ∧ number < M 37 0))
set_option maxHeartbeats 4000000 in
set_option maxRecDepth 100000 in
theorem ctX9_isBend (Γ : Gam) (M : zM) (number : Int) (hnumberl : (-2147483648) ≤ number) (hnumberu : number ≤ 2147483647)  : CtI Γ yX9_isBend cX9_isBend 2 (some .boolean) 0 0 [aR Γ 0, vI number] M (qctX9_isBend M number) := by
  refine met_i (by decide) (Nat.le_of_ble_eq_true rfl) (fun x hx hr => ?_)
  show G Γ x 2 (QI Γ x (qctX9_isBend M number)) M 0 [(0, aR Γ 0), (1, vI number)] []
  refine g_iload_n (n := 1) hx 1 (dq tX9_isBend 0 rfl) rfl rfl ?_
  refine g_if_lt (n := 4) (t := 22) hx (dq tX9_isBend 1 rfl) (by decide) rfl (zrI hnumberl hnumberu (by decide) (by decide)) (fun c_1 => ?_) (fun c_1 => ?_)
  · refine g_iconst (n := 23) hx (dq tX9_isBend 10 rfl) rfl ?_
    exact g_zret hx hr (dq tX9_isBend 11 rfl) (by omega) ⟨rfl, (by omega)⟩
  · refine g_iload_n (n := 5) hx 1 (dq tX9_isBend 2 rfl) rfl rfl ?_
    refine g_aload_n (n := 6) hx 0 (dq tX9_isBend 3 rfl) rfl rfl ?_
    refine g_getR (n := 9) hx glX9_47 (sX9_5 (by decide)) (dq tX9_isBend 4 rfl) rfl ?_
    refine g_getR (n := 12) hx glX9_51 (sX8_0 (by decide)) (dq tX9_isBend 5 rfl) rfl ?_
    refine g_getI (n := 15) hx glX9_400 (sX2_0 (by decide)) (dq tX9_isBend 6 rfl) rfl (fun h_2l h_2u => ?_)
    refine g_icmp_ge (n := 18) (t := 22) hx (dq tX9_isBend 7 rfl) (by decide) rfl (zrI hnumberl hnumberu (by decide) (by decide)) (zrI h_2l h_2u (by decide) (by decide)) (fun c_3 => ?_) (fun c_3 => ?_)
    · refine g_iconst (n := 23) hx (dq tX9_isBend 10 rfl) rfl ?_
      exact g_zret hx hr (dq tX9_isBend 11 rfl) (by omega) ⟨rfl, (by omega)⟩
    · refine g_iconst (n := 19) hx (dq tX9_isBend 8 rfl) rfl ?_
      refine g_goto (n := 23) hx (dq tX9_isBend 9 rfl) (by decide) ?_
      exact g_zret hx hr (dq tX9_isBend 11 rfl) (by omega) ⟨rfl, (by omega)⟩

abbrev qctX9_isVillage (M : zM) (number : Int) (z : Int) (M' : zM) : Prop := M = M' ∧ (z = 0 ∨ (z = 1 ∧ 0 ≤ number ∧ number ≤ 5 ∧ number < M 37 1))
set_option maxHeartbeats 4000000 in
set_option maxRecDepth 100000 in
theorem ctX9_isVillage (Γ : Gam) (M : zM) (number : Int) (hnumberl : (-2147483648) ≤ number) (hnumberu : number ≤ 2147483647)  : CtI Γ yX9_isVillage cX9_isVillage 2 (some .boolean) 0 0 [aR Γ 0, vI number] M (qctX9_isVillage M number) := by
  refine met_i (by decide) (Nat.le_of_ble_eq_true rfl) (fun x hx hr => ?_)
  show G Γ x 2 (QI Γ x (qctX9_isVillage M number)) M 0 [(0, aR Γ 0), (1, vI number)] []
  refine g_iload_n (n := 1) hx 1 (dq tX9_isVillage 0 rfl) rfl rfl ?_
  refine g_if_lt (n := 4) (t := 22) hx (dq tX9_isVillage 1 rfl) (by decide) rfl (zrI hnumberl hnumberu (by decide) (by decide)) (fun c_1 => ?_) (fun c_1 => ?_)
  · refine g_iconst (n := 23) hx (dq tX9_isVillage 10 rfl) rfl ?_
    exact g_zret hx hr (dq tX9_isVillage 11 rfl) (by omega) ⟨rfl, (by omega)⟩
  · refine g_iload_n (n := 5) hx 1 (dq tX9_isVillage 2 rfl) rfl rfl ?_
    refine g_aload_n (n := 6) hx 0 (dq tX9_isVillage 3 rfl) rfl rfl ?_
    refine g_getR (n := 9) hx glX9_47 (sX9_5 (by decide)) (dq tX9_isVillage 4 rfl) rfl ?_
    refine g_getR (n := 12) hx glX9_51 (sX8_0 (by decide)) (dq tX9_isVillage 5 rfl) rfl ?_
    refine g_getI (n := 15) hx glX9_378 (sX2_1 (by decide)) (dq tX9_isVillage 6 rfl) rfl (fun h_2l h_2u => ?_)
    refine g_icmp_ge (n := 18) (t := 22) hx (dq tX9_isVillage 7 rfl) (by decide) rfl (zrI hnumberl hnumberu (by decide) (by decide)) (zrI h_2l h_2u (by decide) (by decide)) (fun c_3 => ?_) (fun c_3 => ?_)
    · refine g_iconst (n := 23) hx (dq tX9_isVillage 10 rfl) rfl ?_
      exact g_zret hx hr (dq tX9_isVillage 11 rfl) (by omega) ⟨rfl, (by omega)⟩
    · refine g_iconst (n := 19) hx (dq tX9_isVillage 8 rfl) rfl ?_
      refine g_goto (n := 23) hx (dq tX9_isVillage 9 rfl) (by decide) ?_
      exact g_zret hx hr (dq tX9_isVillage 11 rfl) (by omega) ⟨rfl, (by omega)⟩

abbrev qctX9_isLog (M : zM) (number : Int) (z : Int) (M' : zM) : Prop := M = M' ∧ (z = 0 ∨ (z = 1 ∧ 0 ≤ number ∧ number ≤ 11 ∧ number < M 37 3))
set_option maxHeartbeats 4000000 in
set_option maxRecDepth 100000 in
theorem ctX9_isLog (Γ : Gam) (M : zM) (number : Int) (hnumberl : (-2147483648) ≤ number) (hnumberu : number ≤ 2147483647)  : CtI Γ yX9_isLog cX9_isLog 2 (some .boolean) 0 0 [aR Γ 0, vI number] M (qctX9_isLog M number) := by
  refine met_i (by decide) (Nat.le_of_ble_eq_true rfl) (fun x hx hr => ?_)
  show G Γ x 2 (QI Γ x (qctX9_isLog M number)) M 0 [(0, aR Γ 0), (1, vI number)] []
  refine g_iload_n (n := 1) hx 1 (dq tX9_isLog 0 rfl) rfl rfl ?_
  refine g_if_lt (n := 4) (t := 22) hx (dq tX9_isLog 1 rfl) (by decide) rfl (zrI hnumberl hnumberu (by decide) (by decide)) (fun c_1 => ?_) (fun c_1 => ?_)
  · refine g_iconst (n := 23) hx (dq tX9_isLog 10 rfl) rfl ?_
    exact g_zret hx hr (dq tX9_isLog 11 rfl) (by omega) ⟨rfl, (by omega)⟩
  · refine g_iload_n (n := 5) hx 1 (dq tX9_isLog 2 rfl) rfl rfl ?_
    refine g_aload_n (n := 6) hx 0 (dq tX9_isLog 3 rfl) rfl rfl ?_
    refine g_getR (n := 9) hx glX9_47 (sX9_5 (by decide)) (dq tX9_isLog 4 rfl) rfl ?_
    refine g_getR (n := 12) hx glX9_51 (sX8_0 (by decide)) (dq tX9_isLog 5 rfl) rfl ?_
    refine g_getI (n := 15) hx glX9_117 (sX2_3 (by decide)) (dq tX9_isLog 6 rfl) rfl (fun h_2l h_2u => ?_)
    refine g_icmp_ge (n := 18) (t := 22) hx (dq tX9_isLog 7 rfl) (by decide) rfl (zrI hnumberl hnumberu (by decide) (by decide)) (zrI h_2l h_2u (by decide) (by decide)) (fun c_3 => ?_) (fun c_3 => ?_)
    · refine g_iconst (n := 23) hx (dq tX9_isLog 10 rfl) rfl ?_
      exact g_zret hx hr (dq tX9_isLog 11 rfl) (by omega) ⟨rfl, (by omega)⟩
    · refine g_iconst (n := 19) hx (dq tX9_isLog 8 rfl) rfl ?_
      refine g_goto (n := 23) hx (dq tX9_isLog 9 rfl) (by decide) ?_
      exact g_zret hx hr (dq tX9_isLog 11 rfl) (by omega) ⟨rfl, (by omega)⟩

abbrev qctX9_bend (M : zM) (bend : Int) (what : Int) (z : Int) (M' : zM) : Prop := M = M'
set_option maxHeartbeats 4000000 in
set_option maxRecDepth 100000 in
theorem ctX9_bend (Γ : Gam) (M : zM) (bend : Int) (hbendl : (-2147483648) ≤ bend) (hbendu : bend ≤ 2147483647) (what : Int) (hwhatl : (-2147483648) ≤ what) (hwhatu : what ≤ 2147483647) (gd0 : Gd M 37 (45 + 1)) : CtI Γ yX9_bend cX9_bend 3 (some .int) 2 44 [aR Γ 0, vI bend, vI what] M (qctX9_bend M bend what) := by
  refine met_i (by decide) (Nat.le_of_ble_eq_true rfl) (fun x hx hr => ?_)
  show G Γ x 3 (QI Γ x (qctX9_bend M bend what)) M 0 [(0, aR Γ 0), (1, vI bend), (2, vI what)] []
  refine g_aload_n (n := 1) hx 0 (dq tX9_bend 0 rfl) rfl rfl ?_
  refine g_iload_n (n := 2) hx 1 (dq tX9_bend 1 rfl) rfl rfl ?_
  refine g_callVi (n := 5) (As := [vI bend]) (rest := []) hx (ctX9_isBend Γ M bend (by omega) (by omega)) mlX9_151 (obX9 (by decide)) (dq tX9_bend 2 rfl) rfl (Nat.le_of_ble_eq_true rfl) (Nat.le_of_ble_eq_true rfl) (Nat.le_of_ble_eq_true rfl) rfl (fun z_1 M_2 h_3 p_4 => ?_)
  obtain ⟨rfl, b_6⟩ := p_4
  refine g_if_ne (n := 8) (t := 10) hx (dq tX9_bend 3 rfl) (by decide) rfl h_3 (fun c_10 => ?_) (fun c_10 => ?_)
  · have b_6 := b_6.resolve_left c_10
    obtain ⟨-, h_7, h_8, h_9⟩ := b_6
    refine g_iload_n (n := 11) hx 2 (dq tX9_bend 6 rfl) rfl rfl ?_
    by_cases c_11 : what = 0
    · refine g_swI (t := 40) hx (dq tX9_bend 7 rfl) c_11 (by decide) (by decide) rfl (by decide) ?_
      refine g_aload_n (n := 41) hx 0 (dq tX9_bend 8 rfl) rfl rfl ?_
      refine g_getR (n := 44) hx glX9_47 (sX9_5 (by decide)) (dq tX9_bend 9 rfl) rfl ?_
      refine g_getR (n := 47) hx glX9_51 (sX8_0 (by decide)) (dq tX9_bend 10 rfl) rfl ?_
      refine g_getR (n := 50) hx glX9_154 (sX2_6 (by decide)) (dq tX9_bend 11 rfl) rfl ?_
      refine g_iload_n (n := 51) hx 1 (dq tX9_bend 12 rfl) rfl rfl ?_
      refine g_iald (n := 52) (q := bend.toNat) hx (aX2_6 (b := 37) (by decide)) (dq tX9_bend 13 rfl) rfl (by omega) (by omega) (by omega) rfl (fun h_12l h_12u => ?_)
      exact g_iret hx hr (dq tX9_bend 14 rfl) (zrI h_12l h_12u (by decide) (by decide)) rfl
    by_cases c_13 : what = 1
    · refine g_swI (t := 53) hx (dq tX9_bend 7 rfl) c_13 (by decide) (by decide) rfl (by decide) ?_
      refine g_aload_n (n := 54) hx 0 (dq tX9_bend 15 rfl) rfl rfl ?_
      refine g_getR (n := 57) hx glX9_47 (sX9_5 (by decide)) (dq tX9_bend 16 rfl) rfl ?_
      refine g_getR (n := 60) hx glX9_100 (sX8_1 (by decide)) (dq tX9_bend 17 rfl) rfl ?_
      refine g_getR (n := 63) hx glX9_157 (sX6_7 (iX8_1 (by decide))) (dq tX9_bend 18 rfl) rfl ?_
      refine g_iload_n (n := 64) hx 1 (dq tX9_bend 19 rfl) rfl rfl ?_
      refine g_iald (n := 65) (q := bend.toNat) hx (aX6_7 (b := 45 + 1) (iX8_1 (by decide))) (dq tX9_bend 20 rfl) rfl (by omega) (by omega) (by omega) rfl (fun h_14l h_14u => ?_)
      exact g_iret hx hr (dq tX9_bend 21 rfl) (zrI h_14l h_14u (by decide) (by decide)) rfl
    by_cases c_15 : what = 2
    · refine g_swI (t := 66) hx (dq tX9_bend 7 rfl) c_15 (by decide) (by decide) rfl (by decide) ?_
      refine g_aload_n (n := 67) hx 0 (dq tX9_bend 22 rfl) rfl rfl ?_
      refine g_getR (n := 70) hx glX9_47 (sX9_5 (by decide)) (dq tX9_bend 23 rfl) rfl ?_
      refine g_iload_n (n := 71) hx 1 (dq tX9_bend 24 rfl) rfl rfl ?_
      refine g_callVi (n := 74) (As := [vI bend]) (rest := []) hx (ctX8_logsAt Γ M 45 (by decide) bend (by omega) (by omega)) mlX9_160 (obX8 (by decide)) (dq tX9_bend 25 rfl) rfl (Nat.le_of_ble_eq_true rfl) (Nat.le_of_ble_eq_true rfl) (Nat.le_of_ble_eq_true rfl) rfl (fun z_16 M_17 h_18 p_19 => ?_)
      obtain rfl := p_19
      exact g_iret hx hr (dq tX9_bend 26 rfl) h_18 rfl
    by_cases c_21 : what = 3
    · refine g_swI (t := 75) hx (dq tX9_bend 7 rfl) c_21 (by decide) (by decide) rfl (by decide) ?_
      refine g_aload_n (n := 76) hx 0 (dq tX9_bend 27 rfl) rfl rfl ?_
      refine g_getR (n := 79) hx glX9_47 (sX9_5 (by decide)) (dq tX9_bend 28 rfl) rfl ?_
      refine g_iload_n (n := 80) hx 1 (dq tX9_bend 29 rfl) rfl rfl ?_
      refine g_callVi (n := 83) (As := [vI bend]) (rest := []) hx (ctX8_roomAt Γ M 45 (by decide) bend (by omega) (by omega)) mlX9_164 (obX8 (by decide)) (dq tX9_bend 30 rfl) rfl (Nat.le_of_ble_eq_true rfl) (Nat.le_of_ble_eq_true rfl) (Nat.le_of_ble_eq_true rfl) rfl (fun z_22 M_23 h_24 p_25 => ?_)
      obtain rfl := p_25
      exact g_iret hx hr (dq tX9_bend 31 rfl) h_24 rfl
    refine g_swO (t := 84) hx (dq tX9_bend 7 rfl) (zrI hwhatl hwhatu (by decide) (by decide)) (by omega) (by decide) ?_
    refine g_iconst (n := 85) hx (dq tX9_bend 32 rfl) rfl ?_
    exact g_iret hx hr (dq tX9_bend 33 rfl) ⟨by decide, by decide⟩ rfl
  · clear b_6
    refine g_iconst (n := 9) hx (dq tX9_bend 4 rfl) rfl ?_
    exact g_iret hx hr (dq tX9_bend 5 rfl) ⟨by decide, by decide⟩ rfl

abbrev qctX9_village (M : zM) (village : Int) (what : Int) (z : Int) (M' : zM) : Prop := M = M'
set_option maxHeartbeats 4000000 in
set_option maxRecDepth 100000 in
theorem ctX9_village (Γ : Gam) (M : zM) (village : Int) (hvillagel : (-2147483648) ≤ village) (hvillageu : village ≤ 2147483647) (what : Int) (hwhatl : (-2147483648) ≤ what) (hwhatu : what ≤ 2147483647) (gd0 : Gd M 37 (45 + 1)) : CtI Γ yX9_village cX9_village 3 (some .int) 4 102 [aR Γ 0, vI village, vI what] M (qctX9_village M village what) := by
  refine met_i (by decide) (Nat.le_of_ble_eq_true rfl) (fun x hx hr => ?_)
  show G Γ x 3 (QI Γ x (qctX9_village M village what)) M 0 [(0, aR Γ 0), (1, vI village), (2, vI what)] []
  refine g_aload_n (n := 1) hx 0 (dq tX9_village 0 rfl) rfl rfl ?_
  refine g_iload_n (n := 2) hx 1 (dq tX9_village 1 rfl) rfl rfl ?_
  refine g_callVi (n := 5) (As := [vI village]) (rest := []) hx (ctX9_isVillage Γ M village (by omega) (by omega)) mlX9_136 (obX9 (by decide)) (dq tX9_village 2 rfl) rfl (Nat.le_of_ble_eq_true rfl) (Nat.le_of_ble_eq_true rfl) (Nat.le_of_ble_eq_true rfl) rfl (fun z_1 M_2 h_3 p_4 => ?_)
  obtain ⟨rfl, b_6⟩ := p_4
  refine g_if_ne (n := 8) (t := 11) hx (dq tX9_village 3 rfl) (by decide) rfl h_3 (fun c_10 => ?_) (fun c_10 => ?_)
  · have b_6 := b_6.resolve_left c_10
    obtain ⟨-, h_7, h_8, h_9⟩ := b_6
    refine g_iload_n (n := 12) hx 2 (dq tX9_village 6 rfl) rfl rfl ?_
    by_cases c_11 : what = 0
    · refine g_swI (t := 52) hx (dq tX9_village 7 rfl) c_11 (by decide) (by decide) rfl (by decide) ?_
      refine g_aload_n (n := 53) hx 0 (dq tX9_village 8 rfl) rfl rfl ?_
      refine g_getR (n := 56) hx glX9_47 (sX9_5 (by decide)) (dq tX9_village 9 rfl) rfl ?_
      refine g_getR (n := 59) hx glX9_51 (sX8_0 (by decide)) (dq tX9_village 10 rfl) rfl ?_
      refine g_getR (n := 62) hx glX9_168 (sX2_5 (by decide)) (dq tX9_village 11 rfl) rfl ?_
      refine g_iload_n (n := 63) hx 1 (dq tX9_village 12 rfl) rfl rfl ?_
      refine g_iald (n := 64) (q := village.toNat) hx (aX2_5 (b := 37) (by decide)) (dq tX9_village 13 rfl) rfl (by omega) (by omega) (by omega) rfl (fun h_12l h_12u => ?_)
      exact g_iret hx hr (dq tX9_village 14 rfl) (zrI h_12l h_12u (by decide) (by decide)) rfl
    by_cases c_13 : what = 1
    · refine g_swI (t := 65) hx (dq tX9_village 7 rfl) c_13 (by decide) (by decide) rfl (by decide) ?_
      refine g_aload_n (n := 66) hx 0 (dq tX9_village 15 rfl) rfl rfl ?_
      refine g_getR (n := 69) hx glX9_47 (sX9_5 (by decide)) (dq tX9_village 16 rfl) rfl ?_
      refine g_getR (n := 72) hx glX9_100 (sX8_1 (by decide)) (dq tX9_village 17 rfl) rfl ?_
      refine g_getR (n := 75) hx glX9_139 (sX6_6 (iX8_1 (by decide))) (dq tX9_village 18 rfl) rfl ?_
      refine g_iload_n (n := 76) hx 1 (dq tX9_village 19 rfl) rfl rfl ?_
      refine g_iald (n := 77) (q := village.toNat) hx (aX6_6 (b := 45 + 1) (iX8_1 (by decide))) (dq tX9_village 20 rfl) rfl (by omega) (by omega) (by omega) rfl (fun h_14l h_14u => ?_)
      exact g_iret hx hr (dq tX9_village 21 rfl) (zrI h_14l h_14u (by decide) (by decide)) rfl
    by_cases c_15 : what = 2
    · refine g_swI (t := 78) hx (dq tX9_village 7 rfl) c_15 (by decide) (by decide) rfl (by decide) ?_
      refine g_aload_n (n := 79) hx 0 (dq tX9_village 22 rfl) rfl rfl ?_
      refine g_getR (n := 82) hx glX9_47 (sX9_5 (by decide)) (dq tX9_village 23 rfl) rfl ?_
      refine g_getR (n := 85) hx glX9_109 (sX8_2 (by decide)) (dq tX9_village 24 rfl) rfl ?_
      refine g_getR (n := 88) hx glX9_171 (sX0_2 (iX8_2 (by decide))) (dq tX9_village 25 rfl) rfl ?_
      refine g_iload_n (n := 89) hx 1 (dq tX9_village 26 rfl) rfl rfl ?_
      refine g_iald (n := 90) (q := village.toNat) hx (aX0_2 (b := 45 + 11) (iX8_2 (by decide))) (dq tX9_village 27 rfl) rfl (by omega) (by omega) (by omega) rfl (fun h_16l h_16u => ?_)
      exact g_iret hx hr (dq tX9_village 28 rfl) (zrI h_16l h_16u (by decide) (by decide)) rfl
    by_cases c_17 : what = 3
    · refine g_swI (t := 91) hx (dq tX9_village 7 rfl) c_17 (by decide) (by decide) rfl (by decide) ?_
      refine g_aload_n (n := 92) hx 0 (dq tX9_village 29 rfl) rfl rfl ?_
      refine g_getR (n := 95) hx glX9_47 (sX9_5 (by decide)) (dq tX9_village 30 rfl) rfl ?_
      refine g_bipush (n := 97) hx (dq tX9_village 31 rfl) rfl (by decide) ?_
      refine g_iload_n (n := 98) hx 1 (dq tX9_village 32 rfl) rfl rfl ?_
      refine g_iadd (n := 99) hx (dq tX9_village 33 rfl) rfl ?_
      refine g_callVi (n := 102) (As := [vI (20 + village)]) (rest := []) hx (ctX8_logsAt Γ M 45 (by decide) (20 + village) (by omega) (by omega)) mlX9_160 (obX8 (by decide)) (dq tX9_village 34 rfl) rfl (Nat.le_of_ble_eq_true rfl) (Nat.le_of_ble_eq_true rfl) (Nat.le_of_ble_eq_true rfl) rfl (fun z_18 M_19 h_20 p_21 => ?_)
      obtain rfl := p_21
      exact g_iret hx hr (dq tX9_village 35 rfl) h_20 rfl
    by_cases c_23 : what = 4
    · refine g_swI (t := 103) hx (dq tX9_village 7 rfl) c_23 (by decide) (by decide) rfl (by decide) ?_
      refine g_aload_n (n := 104) hx 0 (dq tX9_village 36 rfl) rfl rfl ?_
      refine g_getR (n := 107) hx glX9_47 (sX9_5 (by decide)) (dq tX9_village 37 rfl) rfl ?_
      refine g_iload_n (n := 108) hx 1 (dq tX9_village 38 rfl) rfl rfl ?_
      refine g_callVi (n := 111) (As := [vI village]) (rest := []) hx (ctX8_logsOf Γ M 45 (by decide) village (by omega) (by omega) gd0) mlX9_174 (obX8 (by decide)) (dq tX9_village 39 rfl) rfl (Nat.le_of_ble_eq_true rfl) (Nat.le_of_ble_eq_true rfl) (Nat.le_of_ble_eq_true rfl) rfl (fun z_24 M_25 h_26 p_27 => ?_)
      obtain rfl := p_27
      exact g_iret hx hr (dq tX9_village 40 rfl) h_26 rfl
    by_cases c_29 : what = 5
    · refine g_swI (t := 112) hx (dq tX9_village 7 rfl) c_29 (by decide) (by decide) rfl (by decide) ?_
      refine g_aload_n (n := 113) hx 0 (dq tX9_village 41 rfl) rfl rfl ?_
      refine g_getR (n := 116) hx glX9_47 (sX9_5 (by decide)) (dq tX9_village 42 rfl) rfl ?_
      refine g_getR (n := 119) hx glX9_109 (sX8_2 (by decide)) (dq tX9_village 43 rfl) rfl ?_
      refine g_iload_n (n := 120) hx 1 (dq tX9_village 44 rfl) rfl rfl ?_
      refine g_callVi (n := 123) (As := [vI village]) (rest := []) hx (ctX0_net Γ M (45 + 11) (iX8_2 (by decide)) village (by omega) (by omega)) mlX9_177 (obX0 (iX8_2 (by decide))) (dq tX9_village 45 rfl) rfl (Nat.le_of_ble_eq_true rfl) (Nat.le_of_ble_eq_true rfl) (Nat.le_of_ble_eq_true rfl) rfl (fun z_30 M_31 h_32 p_33 => ?_)
      obtain rfl := p_33
      exact g_iret hx hr (dq tX9_village 46 rfl) h_32 rfl
    refine g_swO (t := 124) hx (dq tX9_village 7 rfl) (zrI hwhatl hwhatu (by decide) (by decide)) (by omega) (by decide) ?_
    refine g_ldc (n := 126) (z := (-1000000)) hx wd_723 (by decide) (dq tX9_village 47 rfl) rfl ?_
    exact g_iret hx hr (dq tX9_village 48 rfl) ⟨by decide, by decide⟩ rfl
  · clear b_6
    refine g_ldc (n := 10) (z := (-1000000)) hx wd_723 (by decide) (dq tX9_village 4 rfl) rfl ?_
    exact g_iret hx hr (dq tX9_village 5 rfl) ⟨by decide, by decide⟩ rfl

abbrev qctX9_log (M : zM) (log : Int) (what : Int) (z : Int) (M' : zM) : Prop := M = M'
set_option maxHeartbeats 4000000 in
set_option maxRecDepth 100000 in
theorem ctX9_log (Γ : Gam) (M : zM) (log : Int) (hlogl : (-2147483648) ≤ log) (hlogu : log ≤ 2147483647) (what : Int) (hwhatl : (-2147483648) ≤ what) (hwhatu : what ≤ 2147483647) (gd0 : Gd M 37 (45 + 1)) : CtI Γ yX9_log cX9_log 4 (some .int) 3 79 [aR Γ 0, vI log, vI what] M (qctX9_log M log what) := by
  refine met_i (by decide) (Nat.le_of_ble_eq_true rfl) (fun x hx hr => ?_)
  show G Γ x 4 (QI Γ x (qctX9_log M log what)) M 0 [(0, aR Γ 0), (1, vI log), (2, vI what)] []
  refine g_aload_n (n := 1) hx 0 (dq tX9_log 0 rfl) rfl rfl ?_
  refine g_iload_n (n := 2) hx 1 (dq tX9_log 1 rfl) rfl rfl ?_
  refine g_callVi (n := 5) (As := [vI log]) (rest := []) hx (ctX9_isLog Γ M log (by omega) (by omega)) mlX9_180 (obX9 (by decide)) (dq tX9_log 2 rfl) rfl (Nat.le_of_ble_eq_true rfl) (Nat.le_of_ble_eq_true rfl) (Nat.le_of_ble_eq_true rfl) rfl (fun z_1 M_2 h_3 p_4 => ?_)
  obtain ⟨rfl, b_6⟩ := p_4
  refine g_if_ne (n := 8) (t := 11) hx (dq tX9_log 3 rfl) (by decide) rfl h_3 (fun c_10 => ?_) (fun c_10 => ?_)
  · have b_6 := b_6.resolve_left c_10
    obtain ⟨-, h_7, h_8, h_9⟩ := b_6
    refine g_aload_n (n := 12) hx 0 (dq tX9_log 6 rfl) rfl rfl ?_
    refine g_getR (n := 15) hx glX9_47 (sX9_5 (by decide)) (dq tX9_log 7 rfl) rfl ?_
    refine g_getR (n := 18) hx glX9_100 (sX8_1 (by decide)) (dq tX9_log 8 rfl) rfl ?_
    refine g_astore_n (n := 19) (lv' := [(3, aR Γ (45 + 1)), (0, aR Γ 0), (1, vI log), (2, vI what)]) hx (dq tX9_log 9 rfl) (by decide) rfl rfl ?_
    refine g_iload_n (n := 20) hx 3 (dq tX9_log 10 rfl) rfl rfl ?_
    by_cases c_11 : what = 0
    · refine g_swI (t := 80) hx (dq tX9_log 11 rfl) c_11 (by decide) (by decide) rfl (by decide) ?_
      refine g_aload_n (n := 81) hx 1 (dq tX9_log 12 rfl) rfl rfl ?_
      refine g_getR (n := 84) hx glX9_47 (sX9_5 (by decide)) (dq tX9_log 13 rfl) rfl ?_
      refine g_getR (n := 87) hx glX9_51 (sX8_0 (by decide)) (dq tX9_log 14 rfl) rfl ?_
      refine g_getR (n := 90) hx glX9_183 (sX2_8 (by decide)) (dq tX9_log 15 rfl) rfl ?_
      refine g_iload_n (n := 91) hx 2 (dq tX9_log 16 rfl) rfl rfl ?_
      refine g_iald (n := 92) (q := log.toNat) hx (aX2_8 (b := 37) (by decide)) (dq tX9_log 17 rfl) rfl (by omega) (by omega) (by omega) rfl (fun h_12l h_12u => ?_)
      exact g_iret hx hr (dq tX9_log 18 rfl) (zrI h_12l h_12u (by decide) (by decide)) rfl
    by_cases c_13 : what = 1
    · refine g_swI (t := 93) hx (dq tX9_log 11 rfl) c_13 (by decide) (by decide) rfl (by decide) ?_
      refine g_aload_n (n := 94) hx 0 (dq tX9_log 19 rfl) rfl rfl ?_
      refine g_getR (n := 97) hx glX9_186 (sX6_9 (iX8_1 (by decide))) (dq tX9_log 20 rfl) rfl ?_
      refine g_iload_n (n := 98) hx 2 (dq tX9_log 21 rfl) rfl rfl ?_
      refine g_iald (n := 99) (q := log.toNat) hx (aX6_9 (b := 45 + 1) (iX8_1 (by decide))) (dq tX9_log 22 rfl) rfl (by omega) (by omega) (by omega) rfl (fun h_14l h_14u => ?_)
      exact g_iret hx hr (dq tX9_log 23 rfl) (zrI h_14l h_14u (by decide) (by decide)) rfl
    by_cases c_15 : what = 2
    · refine g_swI (t := 100) hx (dq tX9_log 11 rfl) c_15 (by decide) (by decide) rfl (by decide) ?_
      refine g_aload_n (n := 101) hx 1 (dq tX9_log 24 rfl) rfl rfl ?_
      refine g_getR (n := 104) hx glX9_47 (sX9_5 (by decide)) (dq tX9_log 25 rfl) rfl ?_
      refine g_getR (n := 107) hx glX9_51 (sX8_0 (by decide)) (dq tX9_log 26 rfl) rfl ?_
      refine g_getR (n := 110) hx glX9_189 (sX2_10 (by decide)) (dq tX9_log 27 rfl) rfl ?_
      refine g_iload_n (n := 111) hx 2 (dq tX9_log 28 rfl) rfl rfl ?_
      refine g_iald (n := 112) (q := log.toNat) hx (aX2_10 (b := 37) (by decide)) (dq tX9_log 29 rfl) rfl (by omega) (by omega) (by omega) rfl (fun h_16l h_16u => ?_)
      exact g_iret hx hr (dq tX9_log 30 rfl) (zrI h_16l h_16u (by decide) (by decide)) rfl
    by_cases c_17 : what = 3
    · refine g_swI (t := 113) hx (dq tX9_log 11 rfl) c_17 (by decide) (by decide) rfl (by decide) ?_
      refine g_aload_n (n := 114) hx 0 (dq tX9_log 31 rfl) rfl rfl ?_
      refine g_getR (n := 117) hx glX9_192 (sX6_8 (iX8_1 (by decide))) (dq tX9_log 32 rfl) rfl ?_
      refine g_iload_n (n := 118) hx 2 (dq tX9_log 33 rfl) rfl rfl ?_
      refine g_iald (n := 119) (q := log.toNat) hx (aX6_8 (b := 45 + 1) (iX8_1 (by decide))) (dq tX9_log 34 rfl) rfl (by omega) (by omega) (by omega) rfl (fun h_18l h_18u => ?_)
      exact g_iret hx hr (dq tX9_log 35 rfl) (zrI h_18l h_18u (by decide) (by decide)) rfl
    by_cases c_19 : what = 4
    · refine g_swI (t := 120) hx (dq tX9_log 11 rfl) c_19 (by decide) (by decide) rfl (by decide) ?_
      refine g_aload_n (n := 121) hx 0 (dq tX9_log 36 rfl) rfl rfl ?_
      refine g_getR (n := 124) hx glX9_195 (sX6_13 (iX8_1 (by decide))) (dq tX9_log 37 rfl) rfl ?_
      refine g_iload_n (n := 125) hx 2 (dq tX9_log 38 rfl) rfl rfl ?_
      refine g_iald (n := 126) (q := log.toNat) hx (aX6_13 (b := 45 + 1) (iX8_1 (by decide))) (dq tX9_log 39 rfl) rfl (by omega) (by omega) (by omega) rfl (fun h_20l h_20u => ?_)
      exact g_iret hx hr (dq tX9_log 40 rfl) (zrI h_20l h_20u (by decide) (by decide)) rfl
    by_cases c_21 : what = 5
    · refine g_swI (t := 127) hx (dq tX9_log 11 rfl) c_21 (by decide) (by decide) rfl (by decide) ?_
      refine g_aload_n (n := 128) hx 1 (dq tX9_log 41 rfl) rfl rfl ?_
      refine g_getR (n := 131) hx glX9_47 (sX9_5 (by decide)) (dq tX9_log 42 rfl) rfl ?_
      refine g_iload_n (n := 132) hx 2 (dq tX9_log 43 rfl) rfl rfl ?_
      refine g_callVi (n := 135) (As := [vI log]) (rest := []) hx (ctX8_ownerOf Γ M 45 (by decide) log (by omega) (by omega) (by omega) gd0) mlX9_198 (obX8 (by decide)) (dq tX9_log 44 rfl) rfl (Nat.le_of_ble_eq_true rfl) (Nat.le_of_ble_eq_true rfl) (Nat.le_of_ble_eq_true rfl) rfl (fun z_22 M_23 h_24 p_25 => ?_)
      obtain ⟨rfl, h_27, h_28⟩ := p_25
      exact g_iret hx hr (dq tX9_log 45 rfl) h_24 rfl
    by_cases c_29 : what = 6
    · refine g_swI (t := 136) hx (dq tX9_log 11 rfl) c_29 (by decide) (by decide) rfl (by decide) ?_
      refine g_aload_n (n := 137) hx 1 (dq tX9_log 46 rfl) rfl rfl ?_
      refine g_getR (n := 140) hx glX9_47 (sX9_5 (by decide)) (dq tX9_log 47 rfl) rfl ?_
      refine g_iload_n (n := 141) hx 2 (dq tX9_log 48 rfl) rfl rfl ?_
      refine g_callVi (n := 144) (As := [vI log]) (rest := []) hx (ctX8_priceOf Γ M 45 (by decide) log (by omega) (by omega) (by omega) gd0) mlX9_201 (obX8 (by decide)) (dq tX9_log 49 rfl) rfl (Nat.le_of_ble_eq_true rfl) (Nat.le_of_ble_eq_true rfl) (Nat.le_of_ble_eq_true rfl) rfl (fun z_30 M_31 h_32 p_33 => ?_)
      obtain rfl := p_33
      exact g_iret hx hr (dq tX9_log 50 rfl) h_32 rfl
    by_cases c_35 : what = 7
    · refine g_swI (t := 145) hx (dq tX9_log 11 rfl) c_35 (by decide) (by decide) rfl (by decide) ?_
      refine g_aload_n (n := 146) hx 0 (dq tX9_log 51 rfl) rfl rfl ?_
      refine g_getR (n := 149) hx glX9_204 (sX6_10 (iX8_1 (by decide))) (dq tX9_log 52 rfl) rfl ?_
      refine g_iload_n (n := 150) hx 2 (dq tX9_log 53 rfl) rfl rfl ?_
      refine g_iald (n := 151) (q := log.toNat) hx (aX6_10 (b := 45 + 1) (iX8_1 (by decide))) (dq tX9_log 54 rfl) rfl (by omega) (by omega) (by omega) rfl (fun h_36l h_36u => ?_)
      exact g_iret hx hr (dq tX9_log 55 rfl) (zrI h_36l h_36u (by decide) (by decide)) rfl
    by_cases c_37 : what = 8
    · refine g_swI (t := 152) hx (dq tX9_log 11 rfl) c_37 (by decide) (by decide) rfl (by decide) ?_
      refine g_aload_n (n := 153) hx 0 (dq tX9_log 56 rfl) rfl rfl ?_
      refine g_getR (n := 156) hx glX9_207 (sX6_11 (iX8_1 (by decide))) (dq tX9_log 57 rfl) rfl ?_
      refine g_iload_n (n := 157) hx 2 (dq tX9_log 58 rfl) rfl rfl ?_
      refine g_iald (n := 158) (q := log.toNat) hx (aX6_11 (b := 45 + 1) (iX8_1 (by decide))) (dq tX9_log 59 rfl) rfl (by omega) (by omega) (by omega) rfl (fun h_38l h_38u => ?_)
      exact g_iret hx hr (dq tX9_log 60 rfl) (zrI h_38l h_38u (by decide) (by decide)) rfl
    by_cases c_39 : what = 9
    · refine g_swI (t := 159) hx (dq tX9_log 11 rfl) c_39 (by decide) (by decide) rfl (by decide) ?_
      refine g_aload_n (n := 160) hx 0 (dq tX9_log 61 rfl) rfl rfl ?_
      refine g_iload_n (n := 161) hx 2 (dq tX9_log 62 rfl) rfl rfl ?_
      refine g_callVi (n := 164) (As := [vI log]) (rest := []) hx (ctX6_placeInOrder Γ M (45 + 1) (iX8_1 (by decide)) log (by omega) (by omega)) mlX9_210 (obX6 (iX8_1 (by decide))) (dq tX9_log 63 rfl) rfl (Nat.le_of_ble_eq_true rfl) (Nat.le_of_ble_eq_true rfl) (Nat.le_of_ble_eq_true rfl) rfl (fun z_40 M_41 h_42 p_43 => ?_)
      obtain ⟨rfl, h_45, h_46, h_47⟩ := p_43
      exact g_iret hx hr (dq tX9_log 64 rfl) h_42 rfl
    by_cases c_48 : what = 10
    · refine g_swI (t := 165) hx (dq tX9_log 11 rfl) c_48 (by decide) (by decide) rfl (by decide) ?_
      refine g_aload_n (n := 166) hx 1 (dq tX9_log 65 rfl) rfl rfl ?_
      refine g_getR (n := 169) hx glX9_47 (sX9_5 (by decide)) (dq tX9_log 66 rfl) rfl ?_
      refine g_getR (n := 172) hx glX9_109 (sX8_2 (by decide)) (dq tX9_log 67 rfl) rfl ?_
      refine g_iload_n (n := 173) hx 2 (dq tX9_log 68 rfl) rfl rfl ?_
      refine g_callVi (n := 176) (As := [vI log]) (rest := []) hx (ctX0_weddingsOf Γ M (45 + 11) (iX8_2 (by decide)) log (by omega) (by omega)) mlX9_213 (obX0 (iX8_2 (by decide))) (dq tX9_log 69 rfl) rfl (Nat.le_of_ble_eq_true rfl) (Nat.le_of_ble_eq_true rfl) (Nat.le_of_ble_eq_true rfl) rfl (fun z_49 M_50 h_51 p_52 => ?_)
      obtain rfl := p_52
      exact g_iret hx hr (dq tX9_log 70 rfl) h_51 rfl
    refine g_swO (t := 177) hx (dq tX9_log 11 rfl) (zrI hwhatl hwhatu (by decide) (by decide)) (by omega) (by decide) ?_
    refine g_bipush (n := 179) hx (dq tX9_log 71 rfl) rfl (by decide) ?_
    exact g_iret hx hr (dq tX9_log 72 rfl) ⟨by decide, by decide⟩ rfl
  · clear b_6
    refine g_bipush (n := 10) hx (dq tX9_log 4 rfl) rfl (by decide) ?_
    exact g_iret hx hr (dq tX9_log 5 rfl) ⟨by decide, by decide⟩ rfl

abbrev qctX9_notch (M : zM) (log : Int) (place : Int) (z : Int) (M' : zM) : Prop := M = M'
set_option maxHeartbeats 4000000 in
set_option maxRecDepth 100000 in
theorem ctX9_notch (Γ : Gam) (M : zM) (log : Int) (hlogl : (-2147483648) ≤ log) (hlogu : log ≤ 2147483647) (place : Int) (hplacel : (-2147483648) ≤ place) (hplaceu : place ≤ 2147483647) (gd0 : Gd M 37 (45 + 1)) : CtI Γ yX9_notch cX9_notch 3 (some .int) 1 22 [aR Γ 0, vI log, vI place] M (qctX9_notch M log place) := by
  refine met_i (by decide) (Nat.le_of_ble_eq_true rfl) (fun x hx hr => ?_)
  show G Γ x 3 (QI Γ x (qctX9_notch M log place)) M 0 [(0, aR Γ 0), (1, vI log), (2, vI place)] []
  refine g_aload_n (n := 1) hx 0 (dq tX9_notch 0 rfl) rfl rfl ?_
  refine g_iload_n (n := 2) hx 1 (dq tX9_notch 1 rfl) rfl rfl ?_
  refine g_callVi (n := 5) (As := [vI log]) (rest := []) hx (ctX9_isLog Γ M log (by omega) (by omega)) mlX9_180 (obX9 (by decide)) (dq tX9_notch 2 rfl) rfl (Nat.le_of_ble_eq_true rfl) (Nat.le_of_ble_eq_true rfl) (Nat.le_of_ble_eq_true rfl) rfl (fun z_1 M_2 h_3 p_4 => ?_)
  obtain ⟨rfl, b_6⟩ := p_4
  refine g_if_ne (n := 8) (t := 11) hx (dq tX9_notch 3 rfl) (by decide) rfl h_3 (fun c_10 => ?_) (fun c_10 => ?_)
  · have b_6 := b_6.resolve_left c_10
    obtain ⟨-, h_7, h_8, h_9⟩ := b_6
    refine g_aload_n (n := 12) hx 0 (dq tX9_notch 6 rfl) rfl rfl ?_
    refine g_getR (n := 15) hx glX9_47 (sX9_5 (by decide)) (dq tX9_notch 7 rfl) rfl ?_
    refine g_getR (n := 18) hx glX9_100 (sX8_1 (by decide)) (dq tX9_notch 8 rfl) rfl ?_
    refine g_iload_n (n := 19) hx 1 (dq tX9_notch 9 rfl) rfl rfl ?_
    refine g_iload_n (n := 20) hx 2 (dq tX9_notch 10 rfl) rfl rfl ?_
    refine g_callVi (n := 23) (As := [vI log, vI place]) (rest := []) hx (ctX6_notchAt Γ M (45 + 1) (iX8_1 (by decide)) log (by omega) (by omega) place (by omega) (by omega)) mlX9_216 (obX6 (iX8_1 (by decide))) (dq tX9_notch 11 rfl) rfl (Nat.le_of_ble_eq_true rfl) (Nat.le_of_ble_eq_true rfl) (Nat.le_of_ble_eq_true rfl) rfl (fun z_11 M_12 h_13 p_14 => ?_)
    obtain ⟨rfl, h_16, h_17, h_18⟩ := p_14
    exact g_iret hx hr (dq tX9_notch 12 rfl) h_13 rfl
  · clear b_6
    refine g_bipush (n := 10) hx (dq tX9_notch 4 rfl) rfl (by decide) ?_
    exact g_iret hx hr (dq tX9_notch 5 rfl) ⟨by decide, by decide⟩ rfl

abbrev qctX9_cut (M : zM) (log : Int) (village : Int) (z : Int) (M' : zM) : Prop := (∀ u_ v_, (u_ < 0 + 3 ∨ 0 + 7 ≤ u_) ∧ (u_ ≠ 45 ∨ v_ ≠ 8) ∧ (u_ < 45 + 3 ∨ 45 + 11 ≤ u_) ∧ (u_ ≠ 45 + 11 ∨ v_ ≠ 1) ∧ (u_ ≠ 45 + 11 ∨ v_ ≠ 4) ∧ (u_ ≠ 45 + 11 ∨ v_ ≠ 11) ∧ (u_ < 45 + 12 ∨ 45 + 28 ≤ u_) ∧ (u_ < 73 ∨ 73 + 28 ≤ u_) → M' u_ v_ = M u_ v_) ∧ Gd M' 37 (45 + 1)
set_option maxHeartbeats 4000000 in
set_option maxRecDepth 100000 in
theorem ctX9_cut (Γ : Gam) (M : zM) (log : Int) (hlogl : (-2147483648) ≤ log) (hlogu : log ≤ 2147483647) (village : Int) (hvillagel : (-2147483648) ≤ village) (hvillageu : village ≤ 2147483647) (gd0 : Gd M 37 (45 + 1)) : CtI Γ yX9_cut cX9_cut 4 (some .int) 3 104 [aR Γ 0, vI log, vI village] M (qctX9_cut M log village) := by
  refine met_i (by decide) (Nat.le_of_ble_eq_true rfl) (fun x hx hr => ?_)
  show G Γ x 4 (QI Γ x (qctX9_cut M log village)) M 0 [(0, aR Γ 0), (1, vI log), (2, vI village)] []
  refine g_aload_n (n := 1) hx 0 (dq tX9_cut 0 rfl) rfl rfl ?_
  refine g_iload_n (n := 2) hx 1 (dq tX9_cut 1 rfl) rfl rfl ?_
  refine g_callVi (n := 5) (As := [vI log]) (rest := []) hx (ctX9_isLog Γ M log (by omega) (by omega)) mlX9_180 (obX9 (by decide)) (dq tX9_cut 2 rfl) rfl (Nat.le_of_ble_eq_true rfl) (Nat.le_of_ble_eq_true rfl) (Nat.le_of_ble_eq_true rfl) rfl (fun z_1 M_2 h_3 p_4 => ?_)
  obtain ⟨rfl, b_6⟩ := p_4
  refine g_if_eq (n := 8) (t := 28) hx (dq tX9_cut 3 rfl) (by decide) rfl h_3 (fun c_10 => ?_) (fun c_10 => ?_)
  · clear b_6
    refine g_bipush (n := 30) hx (dq tX9_cut 14 rfl) rfl (by decide) ?_
    exact g_iret hx hr (dq tX9_cut 15 rfl) ⟨by decide, by decide⟩ ⟨(fun _ _ _ => rfl), gd0⟩
  · have b_6 := b_6.resolve_left c_10
    obtain ⟨-, h_7, h_8, h_9⟩ := b_6
    refine g_aload_n (n := 9) hx 0 (dq tX9_cut 4 rfl) rfl rfl ?_
    refine g_iload_n (n := 10) hx 2 (dq tX9_cut 5 rfl) rfl rfl ?_
    refine g_callVi (n := 13) (As := [vI village]) (rest := []) hx (ctX9_isVillage Γ M village (by omega) (by omega)) mlX9_136 (obX9 (by decide)) (dq tX9_cut 6 rfl) rfl (Nat.le_of_ble_eq_true rfl) (Nat.le_of_ble_eq_true rfl) (Nat.le_of_ble_eq_true rfl) rfl (fun z_11 M_12 h_13 p_14 => ?_)
    obtain ⟨rfl, b_16⟩ := p_14
    refine g_if_eq (n := 16) (t := 28) hx (dq tX9_cut 7 rfl) (by decide) rfl h_13 (fun c_20 => ?_) (fun c_20 => ?_)
    · clear b_16
      refine g_bipush (n := 30) hx (dq tX9_cut 14 rfl) rfl (by decide) ?_
      exact g_iret hx hr (dq tX9_cut 15 rfl) ⟨by decide, by decide⟩ ⟨(fun _ _ _ => rfl), gd0⟩
    · have b_16 := b_16.resolve_left c_20
      obtain ⟨-, h_17, h_18, h_19⟩ := b_16
      refine g_aload_n (n := 17) hx 0 (dq tX9_cut 8 rfl) rfl rfl ?_
      refine g_getR (n := 20) hx glX9_47 (sX9_5 (by decide)) (dq tX9_cut 9 rfl) rfl ?_
      refine g_iload_n (n := 21) hx 2 (dq tX9_cut 10 rfl) rfl rfl ?_
      refine g_iload_n (n := 22) hx 1 (dq tX9_cut 11 rfl) rfl rfl ?_
      refine g_callVi (n := 25) (As := [vI village, vI log]) (rest := []) hx (ctX8_reaches Γ M 45 (by decide) village (by omega) (by omega) log (by omega) (by omega)) mlX9_220 (obX8 (by decide)) (dq tX9_cut 12 rfl) rfl (Nat.le_of_ble_eq_true rfl) (Nat.le_of_ble_eq_true rfl) (Nat.le_of_ble_eq_true rfl) rfl (fun z_21 M_22 h_23 p_24 => ?_)
      obtain ⟨rfl, b_26⟩ := p_24
      refine g_if_ne (n := 28) (t := 31) hx (dq tX9_cut 13 rfl) (by decide) rfl h_23 (fun c_27 => ?_) (fun c_27 => ?_)
      · have b_26 := b_26.resolve_left c_27
        obtain ⟨-⟩ := b_26
        refine g_aload_n (n := 32) hx 0 (dq tX9_cut 16 rfl) rfl rfl ?_
        refine g_getR (n := 35) hx glX9_47 (sX9_5 (by decide)) (dq tX9_cut 17 rfl) rfl ?_
        refine g_getR (n := 38) hx glX9_100 (sX8_1 (by decide)) (dq tX9_cut 18 rfl) rfl ?_
        refine g_getR (n := 41) hx glX9_195 (sX6_13 (iX8_1 (by decide))) (dq tX9_cut 19 rfl) rfl ?_
        refine g_iload_n (n := 42) hx 1 (dq tX9_cut 20 rfl) rfl rfl ?_
        refine g_iald (n := 43) (q := log.toNat) hx (aX6_13 (b := 45 + 1) (iX8_1 (by decide))) (dq tX9_cut 21 rfl) rfl (by omega) (by omega) (by omega) rfl (fun h_28l h_28u => ?_)
        refine g_istore_n (n := 44) (lv' := [(3, vI (M (45 + 1 + 8) log.toNat)), (0, aR Γ 0), (1, vI log), (2, vI village)]) hx (dq tX9_cut 22 rfl) (by decide) rfl rfl ?_
        refine g_iload_n (n := 45) hx 0 (dq tX9_cut 23 rfl) rfl rfl ?_
        refine g_bipush (n := 47) hx (dq tX9_cut 24 rfl) rfl (by decide) ?_
        refine g_icmp_lt (n := 50) (t := 53) hx (dq tX9_cut 25 rfl) (by decide) rfl (zrI h_28l h_28u (by decide) (by decide)) ⟨by decide, by decide⟩ (fun c_29 => ?_) (fun c_29 => ?_)
        · refine g_aload_n (n := 54) hx 1 (dq tX9_cut 28 rfl) rfl rfl ?_
          refine g_getR (n := 57) hx glX9_47 (sX9_5 (by decide)) (dq tX9_cut 29 rfl) rfl ?_
          refine g_getR (n := 60) hx glX9_100 (sX8_1 (by decide)) (dq tX9_cut 30 rfl) rfl ?_
          refine g_iload_n (n := 61) hx 2 (dq tX9_cut 31 rfl) rfl rfl ?_
          refine g_iload_n (n := 62) hx 3 (dq tX9_cut 32 rfl) rfl rfl ?_
          refine g_callVv (n := 65) (As := [vI log, vI village]) (rest := []) hx (ctX6_notchBehind Γ M (45 + 1) (iX8_1 (by decide)) log (by omega) (by omega) village (by omega) (by omega)) mlX9_224 (obX6 (iX8_1 (by decide))) (dq tX9_cut 33 rfl) rfl (Nat.le_of_ble_eq_true rfl) (Nat.le_of_ble_eq_true rfl) (Nat.le_of_ble_eq_true rfl) rfl (fun M_31 p_33 => ?_)
          have f_34 := p_33
          have g_35 : Gd M_31 37 (45 + 1) := Gd.frame gd0 (fun c j hcj => f_34 c j (by omega))
          refine g_aload_n (n := 66) hx 1 (dq tX9_cut 34 rfl) rfl rfl ?_
          refine g_getR (n := 69) hx glX9_47 (sX9_5 (by decide)) (dq tX9_cut 35 rfl) rfl ?_
          refine g_getR (n := 72) hx glX9_109 (sX8_2 (by decide)) (dq tX9_cut 36 rfl) rfl ?_
          refine g_iload_n (n := 73) hx 2 (dq tX9_cut 37 rfl) rfl rfl ?_
          refine g_iload_n (n := 74) hx 0 (dq tX9_cut 38 rfl) rfl rfl ?_
          refine g_iload_n (n := 75) hx 3 (dq tX9_cut 39 rfl) rfl rfl ?_
          refine g_iconst (n := 76) hx (dq tX9_cut 40 rfl) rfl ?_
          have e_36 : M_31 37 1 = M 37 1 := (f_34 37 1 (by omega))
          have e_37 : M_31 37 3 = M 37 3 := (f_34 37 3 (by omega))
          refine g_callVv (n := 79) (As := [vI log, vI (M (45 + 1 + 8) log.toNat), vI village, vI (-1)]) (rest := []) hx (ctX0_keepCut Γ M_31 (45 + 11) (iX8_2 (by decide)) log (by omega) (by omega) (M (45 + 1 + 8) log.toNat) (by omega) (by omega) village (by omega) (by omega) (-1) (by decide) (by decide)) mlX9_228 (obX0 (iX8_2 (by decide))) (dq tX9_cut 41 rfl) rfl (Nat.le_of_ble_eq_true rfl) (Nat.le_of_ble_eq_true rfl) (Nat.le_of_ble_eq_true rfl) rfl (fun M_39 p_41 => ?_)
          have f_42 := p_41
          have g_43 : Gd M_39 37 (45 + 1) := Gd.frame g_35 (fun c j hcj => f_42 c j (by omega))
          refine g_iload_n (n := 80) hx 0 (dq tX9_cut 42 rfl) rfl rfl ?_
          refine g_iconst (n := 81) hx (dq tX9_cut 43 rfl) rfl ?_
          refine g_iadd (n := 82) hx (dq tX9_cut 44 rfl) rfl ?_
          exact g_iret hx hr (dq tX9_cut 45 rfl) ⟨by omega, by omega⟩ ⟨(fun u_ v_ huv_ => ((f_42 u_ v_ (by omega)).trans (f_34 u_ v_ (by omega)))), g_43⟩
        · refine g_bipush (n := 52) hx (dq tX9_cut 26 rfl) rfl (by decide) ?_
          exact g_iret hx hr (dq tX9_cut 27 rfl) ⟨by decide, by decide⟩ ⟨(fun _ _ _ => rfl), gd0⟩
      · clear b_26
        refine g_bipush (n := 30) hx (dq tX9_cut 14 rfl) rfl (by decide) ?_
        exact g_iret hx hr (dq tX9_cut 15 rfl) ⟨by decide, by decide⟩ ⟨(fun _ _ _ => rfl), gd0⟩

abbrev qctX9_cutOver (M : zM) (log : Int) (place : Int) (village : Int) (z : Int) (M' : zM) : Prop := (∀ u_ v_, (u_ < 0 + 3 ∨ 0 + 7 ≤ u_) ∧ (u_ ≠ 45 ∨ v_ ≠ 8) ∧ (u_ < 45 + 3 ∨ 45 + 11 ≤ u_) ∧ (u_ ≠ 45 + 11 ∨ v_ ≠ 1) ∧ (u_ ≠ 45 + 11 ∨ v_ ≠ 4) ∧ (u_ ≠ 45 + 11 ∨ v_ ≠ 11) ∧ (u_ < 45 + 12 ∨ 45 + 28 ≤ u_) ∧ (u_ < 73 ∨ 73 + 28 ≤ u_) → M' u_ v_ = M u_ v_) ∧ Gd M' 37 (45 + 1)
set_option maxHeartbeats 4000000 in
set_option maxRecDepth 100000 in
theorem ctX9_cutOver (Γ : Gam) (M : zM) (log : Int) (hlogl : (-2147483648) ≤ log) (hlogu : log ≤ 2147483647) (place : Int) (hplacel : (-2147483648) ≤ place) (hplaceu : place ≤ 2147483647) (village : Int) (hvillagel : (-2147483648) ≤ village) (hvillageu : village ≤ 2147483647) (gd0 : Gd M 37 (45 + 1)) : CtI Γ yX9_cutOver cX9_cutOver 5 (some .int) 3 104 [aR Γ 0, vI log, vI place, vI village] M (qctX9_cutOver M log place village) := by
  refine met_i (by decide) (Nat.le_of_ble_eq_true rfl) (fun x hx hr => ?_)
  show G Γ x 5 (QI Γ x (qctX9_cutOver M log place village)) M 0 [(0, aR Γ 0), (1, vI log), (2, vI place), (3, vI village)] []
  refine g_aload_n (n := 1) hx 0 (dq tX9_cutOver 0 rfl) rfl rfl ?_
  refine g_iload_n (n := 2) hx 1 (dq tX9_cutOver 1 rfl) rfl rfl ?_
  refine g_callVi (n := 5) (As := [vI log]) (rest := []) hx (ctX9_isLog Γ M log (by omega) (by omega)) mlX9_180 (obX9 (by decide)) (dq tX9_cutOver 2 rfl) rfl (Nat.le_of_ble_eq_true rfl) (Nat.le_of_ble_eq_true rfl) (Nat.le_of_ble_eq_true rfl) rfl (fun z_1 M_2 h_3 p_4 => ?_)
  obtain ⟨rfl, b_6⟩ := p_4
  refine g_if_eq (n := 8) (t := 28) hx (dq tX9_cutOver 3 rfl) (by decide) rfl h_3 (fun c_10 => ?_) (fun c_10 => ?_)
  · clear b_6
    refine g_bipush (n := 30) hx (dq tX9_cutOver 14 rfl) rfl (by decide) ?_
    exact g_iret hx hr (dq tX9_cutOver 15 rfl) ⟨by decide, by decide⟩ ⟨(fun _ _ _ => rfl), gd0⟩
  · have b_6 := b_6.resolve_left c_10
    obtain ⟨-, h_7, h_8, h_9⟩ := b_6
    refine g_aload_n (n := 9) hx 0 (dq tX9_cutOver 4 rfl) rfl rfl ?_
    refine g_iload_n (n := 10) hx 3 (dq tX9_cutOver 5 rfl) rfl rfl ?_
    refine g_callVi (n := 13) (As := [vI village]) (rest := []) hx (ctX9_isVillage Γ M village (by omega) (by omega)) mlX9_136 (obX9 (by decide)) (dq tX9_cutOver 6 rfl) rfl (Nat.le_of_ble_eq_true rfl) (Nat.le_of_ble_eq_true rfl) (Nat.le_of_ble_eq_true rfl) rfl (fun z_11 M_12 h_13 p_14 => ?_)
    obtain ⟨rfl, b_16⟩ := p_14
    refine g_if_eq (n := 16) (t := 28) hx (dq tX9_cutOver 7 rfl) (by decide) rfl h_13 (fun c_20 => ?_) (fun c_20 => ?_)
    · clear b_16
      refine g_bipush (n := 30) hx (dq tX9_cutOver 14 rfl) rfl (by decide) ?_
      exact g_iret hx hr (dq tX9_cutOver 15 rfl) ⟨by decide, by decide⟩ ⟨(fun _ _ _ => rfl), gd0⟩
    · have b_16 := b_16.resolve_left c_20
      obtain ⟨-, h_17, h_18, h_19⟩ := b_16
      refine g_aload_n (n := 17) hx 0 (dq tX9_cutOver 8 rfl) rfl rfl ?_
      refine g_getR (n := 20) hx glX9_47 (sX9_5 (by decide)) (dq tX9_cutOver 9 rfl) rfl ?_
      refine g_iload_n (n := 21) hx 3 (dq tX9_cutOver 10 rfl) rfl rfl ?_
      refine g_iload_n (n := 22) hx 1 (dq tX9_cutOver 11 rfl) rfl rfl ?_
      refine g_callVi (n := 25) (As := [vI village, vI log]) (rest := []) hx (ctX8_reaches Γ M 45 (by decide) village (by omega) (by omega) log (by omega) (by omega)) mlX9_220 (obX8 (by decide)) (dq tX9_cutOver 12 rfl) rfl (Nat.le_of_ble_eq_true rfl) (Nat.le_of_ble_eq_true rfl) (Nat.le_of_ble_eq_true rfl) rfl (fun z_21 M_22 h_23 p_24 => ?_)
      obtain ⟨rfl, b_26⟩ := p_24
      refine g_if_ne (n := 28) (t := 31) hx (dq tX9_cutOver 13 rfl) (by decide) rfl h_23 (fun c_27 => ?_) (fun c_27 => ?_)
      · have b_26 := b_26.resolve_left c_27
        obtain ⟨-⟩ := b_26
        refine g_aload_n (n := 32) hx 0 (dq tX9_cutOver 16 rfl) rfl rfl ?_
        refine g_getR (n := 35) hx glX9_47 (sX9_5 (by decide)) (dq tX9_cutOver 17 rfl) rfl ?_
        refine g_getR (n := 38) hx glX9_100 (sX8_1 (by decide)) (dq tX9_cutOver 18 rfl) rfl ?_
        refine g_iload_n (n := 39) hx 1 (dq tX9_cutOver 19 rfl) rfl rfl ?_
        refine g_iload_n (n := 40) hx 2 (dq tX9_cutOver 20 rfl) rfl rfl ?_
        refine g_callVi (n := 43) (As := [vI log, vI place]) (rest := []) hx (ctX6_notchAt Γ M (45 + 1) (iX8_1 (by decide)) log (by omega) (by omega) place (by omega) (by omega)) mlX9_216 (obX6 (iX8_1 (by decide))) (dq tX9_cutOver 21 rfl) rfl (Nat.le_of_ble_eq_true rfl) (Nat.le_of_ble_eq_true rfl) (Nat.le_of_ble_eq_true rfl) rfl (fun z_28 M_29 h_30 p_31 => ?_)
        obtain ⟨rfl, h_33, h_34, h_35⟩ := p_31
        refine g_istore (n := 45) (lv' := [(4, vI z_28), (0, aR Γ 0), (1, vI log), (2, vI place), (3, vI village)]) hx (dq tX9_cutOver 22 rfl) (by decide) rfl rfl ?_
        refine g_iload (n := 47) hx 0 (dq tX9_cutOver 23 rfl) rfl rfl ?_
        refine g_iconst (n := 48) hx (dq tX9_cutOver 24 rfl) rfl ?_
        refine g_icmp_eq (n := 51) (t := 57) hx (dq tX9_cutOver 25 rfl) (by decide) rfl h_30 ⟨by decide, by decide⟩ (fun c_36 => ?_) (fun c_36 => ?_)
        · refine g_bipush (n := 59) hx (dq tX9_cutOver 29 rfl) rfl (by decide) ?_
          exact g_iret hx hr (dq tX9_cutOver 30 rfl) ⟨by decide, by decide⟩ ⟨(fun _ _ _ => rfl), gd0⟩
        · refine g_iload (n := 53) hx 0 (dq tX9_cutOver 26 rfl) rfl rfl ?_
          refine g_iload_n (n := 54) hx 4 (dq tX9_cutOver 27 rfl) rfl rfl ?_
          refine g_icmp_ne (n := 57) (t := 60) hx (dq tX9_cutOver 28 rfl) (by decide) rfl h_30 (zrI hvillagel hvillageu (by decide) (by decide)) (fun c_37 => ?_) (fun c_37 => ?_)
          · refine g_aload_n (n := 61) hx 1 (dq tX9_cutOver 31 rfl) rfl rfl ?_
            refine g_getR (n := 64) hx glX9_47 (sX9_5 (by decide)) (dq tX9_cutOver 32 rfl) rfl ?_
            refine g_getR (n := 67) hx glX9_100 (sX8_1 (by decide)) (dq tX9_cutOver 33 rfl) rfl ?_
            refine g_getR (n := 70) hx glX9_232 (sX6_14 (iX8_1 (by decide))) (dq tX9_cutOver 34 rfl) rfl ?_
            refine g_iload_n (n := 71) hx 2 (dq tX9_cutOver 35 rfl) rfl rfl ?_
            refine g_bipush (n := 73) hx (dq tX9_cutOver 36 rfl) rfl (by decide) ?_
            refine g_imul (n := 74) hx (dq tX9_cutOver 37 rfl) rfl ?_
            refine g_iload_n (n := 75) hx 3 (dq tX9_cutOver 38 rfl) rfl rfl ?_
            refine g_iadd (n := 76) hx (dq tX9_cutOver 39 rfl) rfl ?_
            refine g_iload_n (n := 77) hx 4 (dq tX9_cutOver 40 rfl) rfl rfl ?_
            refine g_iast (n := 78) (q := ((log * 6) + place).toNat) hx (aX6_14 (b := 45 + 1) (iX8_1 (by decide))) (dq tX9_cutOver 41 rfl) rfl (by omega) (by omega) (by omega) rfl (by omega) (by omega) (fun M_38 m_39e m_39 => ?_)
            have g_40 : Gd M_38 37 (45 + 1) := Gd.frame gd0 (fun c j hcj => m_39 c j (by omega))
            refine g_aload_n (n := 79) hx 1 (dq tX9_cutOver 42 rfl) rfl rfl ?_
            refine g_getR (n := 82) hx glX9_47 (sX9_5 (by decide)) (dq tX9_cutOver 43 rfl) rfl ?_
            refine g_getR (n := 85) hx glX9_109 (sX8_2 (by decide)) (dq tX9_cutOver 44 rfl) rfl ?_
            refine g_iload_n (n := 86) hx 2 (dq tX9_cutOver 45 rfl) rfl rfl ?_
            refine g_iload_n (n := 87) hx 3 (dq tX9_cutOver 46 rfl) rfl rfl ?_
            refine g_iload_n (n := 88) hx 4 (dq tX9_cutOver 47 rfl) rfl rfl ?_
            refine g_iload (n := 90) hx 0 (dq tX9_cutOver 48 rfl) rfl rfl ?_
            have e_41 : M_38 37 1 = M 37 1 := (m_39 37 1 (by omega))
            have e_42 : M_38 37 3 = M 37 3 := (m_39 37 3 (by omega))
            refine g_callVv (n := 93) (As := [vI log, vI place, vI village, vI z_28]) (rest := []) hx (ctX0_keepCut Γ M_38 (45 + 11) (iX8_2 (by decide)) log (by omega) (by omega) place (by omega) (by omega) village (by omega) (by omega) z_28 (by omega) (by omega)) mlX9_228 (obX0 (iX8_2 (by decide))) (dq tX9_cutOver 49 rfl) rfl (Nat.le_of_ble_eq_true rfl) (Nat.le_of_ble_eq_true rfl) (Nat.le_of_ble_eq_true rfl) rfl (fun M_44 p_46 => ?_)
            have f_47 := p_46
            have g_48 : Gd M_44 37 (45 + 1) := Gd.frame g_40 (fun c j hcj => f_47 c j (by omega))
            refine g_iload (n := 95) hx 0 (dq tX9_cutOver 50 rfl) rfl rfl ?_
            exact g_iret hx hr (dq tX9_cutOver 51 rfl) h_30 ⟨(fun u_ v_ huv_ => ((f_47 u_ v_ (by omega)).trans (m_39 u_ v_ (by omega)))), g_48⟩
          · refine g_bipush (n := 59) hx (dq tX9_cutOver 29 rfl) rfl (by decide) ?_
            exact g_iret hx hr (dq tX9_cutOver 30 rfl) ⟨by decide, by decide⟩ ⟨(fun _ _ _ => rfl), gd0⟩
      · clear b_26
        refine g_bipush (n := 30) hx (dq tX9_cutOver 14 rfl) rfl (by decide) ?_
        exact g_iret hx hr (dq tX9_cutOver 15 rfl) ⟨by decide, by decide⟩ ⟨(fun _ _ _ => rfl), gd0⟩

abbrev qctX9_undo (M : zM)  (z : Int) (M' : zM) : Prop := (∀ u_ v_, (u_ < 0 + 3 ∨ 0 + 7 ≤ u_) ∧ (u_ ≠ 45 ∨ v_ ≠ 8) ∧ (u_ < 45 + 3 ∨ 45 + 11 ≤ u_) ∧ (u_ ≠ 45 + 11 ∨ v_ ≠ 1) ∧ (u_ ≠ 45 + 11 ∨ v_ ≠ 4) ∧ (u_ ≠ 45 + 11 ∨ v_ ≠ 11) ∧ (u_ < 45 + 12 ∨ 45 + 28 ≤ u_) ∧ (u_ < 73 ∨ 73 + 28 ≤ u_) → M' u_ v_ = M u_ v_) ∧ Gd M' 37 (45 + 1)
set_option maxHeartbeats 4000000 in
set_option maxRecDepth 100000 in
theorem ctX9_undo (Γ : Gam) (M : zM)  (gd0 : Gd M 37 (45 + 1)) : CtI Γ yX9_undo cX9_undo 6 (some .int) 1 22 [aR Γ 0] M (qctX9_undo M) := by
  refine met_i (by decide) (Nat.le_of_ble_eq_true rfl) (fun x hx hr => ?_)
  show G Γ x 6 (QI Γ x (qctX9_undo M)) M 0 [(0, aR Γ 0)] []
  refine g_aload_n (n := 1) hx 0 (dq tX9_undo 0 rfl) rfl rfl ?_
  refine g_getR (n := 4) hx glX9_47 (sX9_5 (by decide)) (dq tX9_undo 1 rfl) rfl ?_
  refine g_getR (n := 7) hx glX9_109 (sX8_2 (by decide)) (dq tX9_undo 2 rfl) rfl ?_
  refine g_astore_n (n := 8) (lv' := [(1, aR Γ (45 + 11)), (0, aR Γ 0)]) hx (dq tX9_undo 3 rfl) (by decide) rfl rfl ?_
  refine g_aload_n (n := 9) hx 0 (dq tX9_undo 4 rfl) rfl rfl ?_
  refine g_getI (n := 12) hx glX9_235 (sX0_11 (iX8_2 (by decide))) (dq tX9_undo 5 rfl) rfl (fun h_1l h_1u => ?_)
  refine g_iconst (n := 13) hx (dq tX9_undo 6 rfl) rfl ?_
  refine g_isub (n := 14) hx (dq tX9_undo 7 rfl) rfl ?_
  refine g_istore_n (n := 15) (lv' := [(2, vI ((M (45 + 11) 11) - 1)), (1, aR Γ (45 + 11)), (0, aR Γ 0)]) hx (dq tX9_undo 8 rfl) (by decide) rfl rfl ?_
  refine g_iload_n (n := 16) hx 0 (dq tX9_undo 9 rfl) rfl rfl ?_
  refine g_if_ge (n := 19) (t := 22) hx (dq tX9_undo 10 rfl) (by decide) rfl ⟨by omega, by omega⟩ (fun c_2 => ?_) (fun c_2 => ?_)
  · refine g_aload_n (n := 23) hx 1 (dq tX9_undo 13 rfl) rfl rfl ?_
    refine g_getR (n := 26) hx glX9_238 (sX0_12 (iX8_2 (by decide))) (dq tX9_undo 14 rfl) rfl ?_
    refine g_iload_n (n := 27) hx 0 (dq tX9_undo 15 rfl) rfl rfl ?_
    refine g_iald (n := 28) (q := ((M (45 + 11) 11) - 1).toNat) hx (aX0_12 (b := 45 + 11) (iX8_2 (by decide))) (dq tX9_undo 16 rfl) rfl (by omega) (by omega) (by omega) rfl (fun h_3l h_3u => ?_)
    refine g_istore_n (n := 29) (lv' := [(3, vI (M (45 + 11 + 8) (((M (45 + 11) 11) - 1).toNat))), (2, vI ((M (45 + 11) 11) - 1)), (1, aR Γ (45 + 11)), (0, aR Γ 0)]) hx (dq tX9_undo 17 rfl) (by decide) rfl rfl ?_
    refine g_aload_n (n := 30) hx 2 (dq tX9_undo 18 rfl) rfl rfl ?_
    refine g_getR (n := 33) hx glX9_241 (sX0_13 (iX8_2 (by decide))) (dq tX9_undo 19 rfl) rfl ?_
    refine g_iload_n (n := 34) hx 1 (dq tX9_undo 20 rfl) rfl rfl ?_
    refine g_iald (n := 35) (q := ((M (45 + 11) 11) - 1).toNat) hx (aX0_13 (b := 45 + 11) (iX8_2 (by decide))) (dq tX9_undo 21 rfl) rfl (by omega) (by omega) (by omega) rfl (fun h_4l h_4u => ?_)
    refine g_istore (n := 37) (lv' := [(4, vI (M (45 + 11 + 9) (((M (45 + 11) 11) - 1).toNat))), (3, vI (M (45 + 11 + 8) (((M (45 + 11) 11) - 1).toNat))), (2, vI ((M (45 + 11) 11) - 1)), (1, aR Γ (45 + 11)), (0, aR Γ 0)]) hx (dq tX9_undo 22 rfl) (by decide) rfl rfl ?_
    refine g_aload_n (n := 38) hx 3 (dq tX9_undo 23 rfl) rfl rfl ?_
    refine g_getR (n := 41) hx glX9_244 (sX0_15 (iX8_2 (by decide))) (dq tX9_undo 24 rfl) rfl ?_
    refine g_iload_n (n := 42) hx 2 (dq tX9_undo 25 rfl) rfl rfl ?_
    refine g_iald (n := 43) (q := ((M (45 + 11) 11) - 1).toNat) hx (aX0_15 (b := 45 + 11) (iX8_2 (by decide))) (dq tX9_undo 26 rfl) rfl (by omega) (by omega) (by omega) rfl (fun h_5l h_5u => ?_)
    refine g_istore (n := 45) (lv' := [(5, vI (M (45 + 11 + 11) (((M (45 + 11) 11) - 1).toNat))), (4, vI (M (45 + 11 + 9) (((M (45 + 11) 11) - 1).toNat))), (3, vI (M (45 + 11 + 8) (((M (45 + 11) 11) - 1).toNat))), (2, vI ((M (45 + 11) 11) - 1)), (1, aR Γ (45 + 11)), (0, aR Γ 0)]) hx (dq tX9_undo 27 rfl) (by decide) rfl rfl ?_
    refine g_aload_n (n := 46) hx 5 (dq tX9_undo 28 rfl) rfl rfl ?_
    refine g_getR (n := 49) hx glX9_47 (sX9_5 (by decide)) (dq tX9_undo 29 rfl) rfl ?_
    refine g_getR (n := 52) hx glX9_100 (sX8_1 (by decide)) (dq tX9_undo 30 rfl) rfl ?_
    refine g_iload_n (n := 53) hx 2 (dq tX9_undo 31 rfl) rfl rfl ?_
    refine g_iload (n := 55) hx 1 (dq tX9_undo 32 rfl) rfl rfl ?_
    refine g_callVi (n := 58) (As := [vI (M (45 + 11 + 8) (((M (45 + 11) 11) - 1).toNat)), vI (M (45 + 11 + 9) (((M (45 + 11) 11) - 1).toNat))]) (rest := []) hx (ctX6_notchAt Γ M (45 + 1) (iX8_1 (by decide)) (M (45 + 11 + 8) (((M (45 + 11) 11) - 1).toNat)) (by omega) (by omega) (M (45 + 11 + 9) (((M (45 + 11) 11) - 1).toNat)) (by omega) (by omega)) mlX9_216 (obX6 (iX8_1 (by decide))) (dq tX9_undo 33 rfl) rfl (Nat.le_of_ble_eq_true rfl) (Nat.le_of_ble_eq_true rfl) (Nat.le_of_ble_eq_true rfl) rfl (fun z_6 M_7 h_8 p_9 => ?_)
    obtain ⟨rfl, h_11, h_12, h_13⟩ := p_9
    refine g_aload_n (n := 59) hx 4 (dq tX9_undo 34 rfl) rfl rfl ?_
    refine g_getR (n := 62) hx glX9_247 (sX0_14 (iX8_2 (by decide))) (dq tX9_undo 35 rfl) rfl ?_
    refine g_iload_n (n := 63) hx 3 (dq tX9_undo 36 rfl) rfl rfl ?_
    refine g_iald (n := 64) (q := ((M (45 + 11) 11) - 1).toNat) hx (aX0_14 (b := 45 + 11) (iX8_2 (by decide))) (dq tX9_undo 37 rfl) rfl (by omega) (by omega) (by omega) rfl (fun h_14l h_14u => ?_)
    refine g_icmp_eq (n := 67) (t := 70) hx (dq tX9_undo 38 rfl) (by decide) rfl h_8 (zrI h_14l h_14u (by decide) (by decide)) (fun c_15 => ?_) (fun c_15 => ?_)
    · refine g_iload (n := 72) hx 0 (dq tX9_undo 41 rfl) rfl rfl ?_
      refine g_iconst (n := 73) hx (dq tX9_undo 42 rfl) rfl ?_
      refine g_icmp_eq (n := 76) (t := 99) hx (dq tX9_undo 43 rfl) (by decide) rfl (zrI h_5l h_5u (by decide) (by decide)) ⟨by decide, by decide⟩ (fun c_16 => ?_) (fun c_16 => ?_)
      · refine g_iload (n := 101) hx 1 (dq tX9_undo 56 rfl) rfl rfl ?_
        refine g_aload_n (n := 102) hx 5 (dq tX9_undo 57 rfl) rfl rfl ?_
        refine g_getR (n := 105) hx glX9_47 (sX9_5 (by decide)) (dq tX9_undo 58 rfl) rfl ?_
        refine g_getR (n := 108) hx glX9_100 (sX8_1 (by decide)) (dq tX9_undo 59 rfl) rfl ?_
        refine g_getR (n := 111) hx glX9_195 (sX6_13 (iX8_1 (by decide))) (dq tX9_undo 60 rfl) rfl ?_
        refine g_iload_n (n := 112) hx 2 (dq tX9_undo 61 rfl) rfl rfl ?_
        refine g_iald (n := 113) (q := (M (45 + 11 + 8) (((M (45 + 11) 11) - 1).toNat)).toNat) hx (aX6_13 (b := 45 + 1) (iX8_1 (by decide))) (dq tX9_undo 62 rfl) rfl (by omega) (by omega) (by omega) rfl (fun h_17l h_17u => ?_)
        refine g_iconst (n := 114) hx (dq tX9_undo 63 rfl) rfl ?_
        refine g_isub (n := 115) hx (dq tX9_undo 64 rfl) rfl ?_
        refine g_icmp_ne (n := 118) (t := 135) hx (dq tX9_undo 65 rfl) (by decide) rfl (zrI h_4l h_4u (by decide) (by decide)) ⟨by omega, by omega⟩ (fun c_18 => ?_) (fun c_18 => ?_)
        · refine g_bipush (n := 137) hx (dq tX9_undo 74 rfl) rfl (by decide) ?_
          exact g_iret hx hr (dq tX9_undo 75 rfl) ⟨by decide, by decide⟩ ⟨(fun _ _ _ => rfl), gd0⟩
        · refine g_aload_n (n := 119) hx 5 (dq tX9_undo 66 rfl) rfl rfl ?_
          refine g_getR (n := 122) hx glX9_47 (sX9_5 (by decide)) (dq tX9_undo 67 rfl) rfl ?_
          refine g_getR (n := 125) hx glX9_100 (sX8_1 (by decide)) (dq tX9_undo 68 rfl) rfl ?_
          refine g_getR (n := 128) hx glX9_195 (sX6_13 (iX8_1 (by decide))) (dq tX9_undo 69 rfl) rfl ?_
          refine g_iload_n (n := 129) hx 2 (dq tX9_undo 70 rfl) rfl rfl ?_
          refine g_iload (n := 131) hx 1 (dq tX9_undo 71 rfl) rfl rfl ?_
          refine g_iast (n := 132) (q := (M (45 + 11 + 8) (((M (45 + 11) 11) - 1).toNat)).toNat) hx (aX6_13 (b := 45 + 1) (iX8_1 (by decide))) (dq tX9_undo 72 rfl) rfl (by omega) (by omega) (by omega) rfl (by omega) (by omega) (fun M_19 m_20e m_20 => ?_)
          have g_21 : Gd M_19 37 (45 + 1) := Gd.frame gd0 (fun c j hcj => m_20 c j (by omega))
          refine g_goto (n := 138) hx (dq tX9_undo 73 rfl) (by decide) ?_
          refine g_aload_n (n := 139) hx 4 (dq tX9_undo 76 rfl) rfl rfl ?_
          refine g_iload_n (n := 140) hx 3 (dq tX9_undo 77 rfl) rfl rfl ?_
          refine g_putI (n := 143) hx plX9_235 (sX0_11 (iX8_2 (by decide))) (dq tX9_undo 78 rfl) rfl (by omega) (by omega) (fun M_22 m_23e m_23 => ?_)
          have g_24 : Gd M_22 37 (45 + 1) := Gd.frame g_21 (fun c j hcj => m_23 c j (by omega))
          refine g_iload_n (n := 144) hx 2 (dq tX9_undo 79 rfl) rfl rfl ?_
          exact g_iret hx hr (dq tX9_undo 80 rfl) (zrI h_3l h_3u (by decide) (by decide)) ⟨(fun u_ v_ huv_ => ((m_23 u_ v_ (by omega)).trans (m_20 u_ v_ (by omega)))), g_24⟩
      · refine g_aload_n (n := 77) hx 5 (dq tX9_undo 44 rfl) rfl rfl ?_
        refine g_getR (n := 80) hx glX9_47 (sX9_5 (by decide)) (dq tX9_undo 45 rfl) rfl ?_
        refine g_getR (n := 83) hx glX9_100 (sX8_1 (by decide)) (dq tX9_undo 46 rfl) rfl ?_
        refine g_getR (n := 86) hx glX9_232 (sX6_14 (iX8_1 (by decide))) (dq tX9_undo 47 rfl) rfl ?_
        refine g_iload_n (n := 87) hx 2 (dq tX9_undo 48 rfl) rfl rfl ?_
        refine g_bipush (n := 89) hx (dq tX9_undo 49 rfl) rfl (by decide) ?_
        refine g_imul (n := 90) hx (dq tX9_undo 50 rfl) rfl ?_
        refine g_iload (n := 92) hx 1 (dq tX9_undo 51 rfl) rfl rfl ?_
        refine g_iadd (n := 93) hx (dq tX9_undo 52 rfl) rfl ?_
        refine g_iload (n := 95) hx 0 (dq tX9_undo 53 rfl) rfl rfl ?_
        refine g_iast (n := 96) (q := (((M (45 + 11 + 8) (((M (45 + 11) 11) - 1).toNat)) * 6) + (M (45 + 11 + 9) (((M (45 + 11) 11) - 1).toNat))).toNat) hx (aX6_14 (b := 45 + 1) (iX8_1 (by decide))) (dq tX9_undo 54 rfl) rfl (by omega) (by omega) (by omega) rfl (by omega) (by omega) (fun M_25 m_26e m_26 => ?_)
        have g_27 : Gd M_25 37 (45 + 1) := Gd.frame gd0 (fun c j hcj => m_26 c j (by omega))
        refine g_goto (n := 138) hx (dq tX9_undo 55 rfl) (by decide) ?_
        refine g_aload_n (n := 139) hx 4 (dq tX9_undo 76 rfl) rfl rfl ?_
        refine g_iload_n (n := 140) hx 3 (dq tX9_undo 77 rfl) rfl rfl ?_
        refine g_putI (n := 143) hx plX9_235 (sX0_11 (iX8_2 (by decide))) (dq tX9_undo 78 rfl) rfl (by omega) (by omega) (fun M_28 m_29e m_29 => ?_)
        have g_30 : Gd M_28 37 (45 + 1) := Gd.frame g_27 (fun c j hcj => m_29 c j (by omega))
        refine g_iload_n (n := 144) hx 2 (dq tX9_undo 79 rfl) rfl rfl ?_
        exact g_iret hx hr (dq tX9_undo 80 rfl) (zrI h_3l h_3u (by decide) (by decide)) ⟨(fun u_ v_ huv_ => ((m_29 u_ v_ (by omega)).trans (m_26 u_ v_ (by omega)))), g_30⟩
    · refine g_bipush (n := 69) hx (dq tX9_undo 39 rfl) rfl (by decide) ?_
      exact g_iret hx hr (dq tX9_undo 40 rfl) ⟨by decide, by decide⟩ ⟨(fun _ _ _ => rfl), gd0⟩
  · refine g_bipush (n := 21) hx (dq tX9_undo 11 rfl) rfl (by decide) ?_
    exact g_iret hx hr (dq tX9_undo 12 rfl) ⟨by decide, by decide⟩ ⟨(fun _ _ _ => rfl), gd0⟩

abbrev qctX9_launch (M : zM) (log : Int) (z : Int) (M' : zM) : Prop := (∀ u_ v_, (u_ < 0 + 3 ∨ 0 + 7 ≤ u_) ∧ (u_ ≠ 45 ∨ v_ ≠ 8) ∧ (u_ < 45 + 3 ∨ 45 + 11 ≤ u_) ∧ (u_ ≠ 45 + 11 ∨ v_ ≠ 1) ∧ (u_ ≠ 45 + 11 ∨ v_ ≠ 4) ∧ (u_ ≠ 45 + 11 ∨ v_ ≠ 11) ∧ (u_ < 45 + 12 ∨ 45 + 28 ≤ u_) ∧ (u_ < 73 ∨ 73 + 28 ≤ u_) → M' u_ v_ = M u_ v_) ∧ Gd M' 37 (45 + 1)
set_option maxHeartbeats 4000000 in
set_option maxRecDepth 100000 in
theorem ctX9_launch (Γ : Gam) (M : zM) (log : Int) (hlogl : (-2147483648) ≤ log) (hlogu : log ≤ 2147483647) (gd0 : Gd M 37 (45 + 1)) : CtI Γ yX9_launch cX9_launch 3 (some .int) 2 44 [aR Γ 0, vI log] M (qctX9_launch M log) := by
  refine met_i (by decide) (Nat.le_of_ble_eq_true rfl) (fun x hx hr => ?_)
  show G Γ x 3 (QI Γ x (qctX9_launch M log)) M 0 [(0, aR Γ 0), (1, vI log)] []
  refine g_aload_n (n := 1) hx 0 (dq tX9_launch 0 rfl) rfl rfl ?_
  refine g_iload_n (n := 2) hx 1 (dq tX9_launch 1 rfl) rfl rfl ?_
  refine g_callVi (n := 5) (As := [vI log]) (rest := []) hx (ctX9_isLog Γ M log (by omega) (by omega)) mlX9_180 (obX9 (by decide)) (dq tX9_launch 2 rfl) rfl (Nat.le_of_ble_eq_true rfl) (Nat.le_of_ble_eq_true rfl) (Nat.le_of_ble_eq_true rfl) rfl (fun z_1 M_2 h_3 p_4 => ?_)
  obtain ⟨rfl, b_6⟩ := p_4
  refine g_if_eq (n := 8) (t := 22) hx (dq tX9_launch 3 rfl) (by decide) rfl h_3 (fun c_10 => ?_) (fun c_10 => ?_)
  · clear b_6
    refine g_bipush (n := 24) hx (dq tX9_launch 10 rfl) rfl (by decide) ?_
    exact g_iret hx hr (dq tX9_launch 11 rfl) ⟨by decide, by decide⟩ ⟨(fun _ _ _ => rfl), gd0⟩
  · have b_6 := b_6.resolve_left c_10
    obtain ⟨-, h_7, h_8, h_9⟩ := b_6
    refine g_aload_n (n := 9) hx 0 (dq tX9_launch 4 rfl) rfl rfl ?_
    refine g_getR (n := 12) hx glX9_47 (sX9_5 (by decide)) (dq tX9_launch 5 rfl) rfl ?_
    refine g_getR (n := 15) hx glX9_100 (sX8_1 (by decide)) (dq tX9_launch 6 rfl) rfl ?_
    refine g_iload_n (n := 16) hx 1 (dq tX9_launch 7 rfl) rfl rfl ?_
    refine g_callVi (n := 19) (As := [vI log]) (rest := []) hx (ctX6_isAshore Γ M (45 + 1) (iX8_1 (by decide)) log (by omega) (by omega)) mlX9_250 (obX6 (iX8_1 (by decide))) (dq tX9_launch 8 rfl) rfl (Nat.le_of_ble_eq_true rfl) (Nat.le_of_ble_eq_true rfl) (Nat.le_of_ble_eq_true rfl) rfl (fun z_11 M_12 h_13 p_14 => ?_)
    obtain ⟨rfl, b_16⟩ := p_14
    refine g_if_ne (n := 22) (t := 25) hx (dq tX9_launch 9 rfl) (by decide) rfl h_13 (fun c_19 => ?_) (fun c_19 => ?_)
    · have b_16 := b_16.resolve_left c_19
      obtain ⟨-, h_17, h_18⟩ := b_16
      refine g_aload_n (n := 26) hx 0 (dq tX9_launch 12 rfl) rfl rfl ?_
      refine g_getR (n := 29) hx glX9_47 (sX9_5 (by decide)) (dq tX9_launch 13 rfl) rfl ?_
      refine g_iload_n (n := 30) hx 1 (dq tX9_launch 14 rfl) rfl rfl ?_
      refine g_callVi (n := 33) (As := [vI log]) (rest := []) hx (ctX8_bendOf Γ M 45 (by decide) log (by omega) (by omega) (by omega) gd0) mlX9_253 (obX8 (by decide)) (dq tX9_launch 15 rfl) rfl (Nat.le_of_ble_eq_true rfl) (Nat.le_of_ble_eq_true rfl) (Nat.le_of_ble_eq_true rfl) rfl (fun z_20 M_21 h_22 p_23 => ?_)
      obtain ⟨rfl, h_25, h_26, h_27⟩ := p_23
      refine g_istore_n (n := 34) (lv' := [(2, vI z_20), (0, aR Γ 0), (1, vI log)]) hx (dq tX9_launch 16 rfl) (by decide) rfl rfl ?_
      refine g_aload_n (n := 35) hx 1 (dq tX9_launch 17 rfl) rfl rfl ?_
      refine g_getR (n := 38) hx glX9_47 (sX9_5 (by decide)) (dq tX9_launch 18 rfl) rfl ?_
      refine g_iload_n (n := 39) hx 0 (dq tX9_launch 19 rfl) rfl rfl ?_
      refine g_callVi (n := 42) (As := [vI z_20]) (rest := []) hx (ctX8_roomAt Γ M 45 (by decide) z_20 (by omega) (by omega)) mlX9_164 (obX8 (by decide)) (dq tX9_launch 20 rfl) rfl (Nat.le_of_ble_eq_true rfl) (Nat.le_of_ble_eq_true rfl) (Nat.le_of_ble_eq_true rfl) rfl (fun z_28 M_29 h_30 p_31 => ?_)
      obtain rfl := p_31
      refine g_iconst (n := 43) hx (dq tX9_launch 21 rfl) rfl ?_
      refine g_icmp_ge (n := 46) (t := 49) hx (dq tX9_launch 22 rfl) (by decide) rfl h_30 ⟨by decide, by decide⟩ (fun c_33 => ?_) (fun c_33 => ?_)
      · refine g_aload_n (n := 50) hx 1 (dq tX9_launch 25 rfl) rfl rfl ?_
        refine g_getR (n := 53) hx glX9_47 (sX9_5 (by decide)) (dq tX9_launch 26 rfl) rfl ?_
        refine g_getR (n := 56) hx glX9_100 (sX8_1 (by decide)) (dq tX9_launch 27 rfl) rfl ?_
        refine g_getR (n := 59) hx glX9_192 (sX6_8 (iX8_1 (by decide))) (dq tX9_launch 28 rfl) rfl ?_
        refine g_iload_n (n := 60) hx 2 (dq tX9_launch 29 rfl) rfl rfl ?_
        refine g_iload_n (n := 61) hx 0 (dq tX9_launch 30 rfl) rfl rfl ?_
        refine g_iast (n := 62) (q := log.toNat) hx (aX6_8 (b := 45 + 1) (iX8_1 (by decide))) (dq tX9_launch 31 rfl) rfl (by omega) (by omega) (by omega) rfl (by omega) (by omega) (fun M_34 m_35e m_35 => ?_)
        have g_36 := Gd.place gd0 m_35e m_35 (by omega) (by omega) (by omega) (by omega)
        refine g_iload_n (n := 63) hx 0 (dq tX9_launch 32 rfl) rfl rfl ?_
        exact g_iret hx hr (dq tX9_launch 33 rfl) h_22 ⟨(fun u_ v_ huv_ => (m_35 u_ v_ (by omega))), g_36⟩
      · refine g_bipush (n := 48) hx (dq tX9_launch 23 rfl) rfl (by decide) ?_
        exact g_iret hx hr (dq tX9_launch 24 rfl) ⟨by decide, by decide⟩ ⟨(fun _ _ _ => rfl), gd0⟩
    · clear b_16
      refine g_bipush (n := 24) hx (dq tX9_launch 10 rfl) rfl (by decide) ?_
      exact g_iret hx hr (dq tX9_launch 11 rfl) ⟨by decide, by decide⟩ ⟨(fun _ _ _ => rfl), gd0⟩

abbrev qctX9_land (M : zM) (log : Int) (village : Int) (z : Int) (M' : zM) : Prop := (∀ u_ v_, (u_ < 0 + 3 ∨ 0 + 7 ≤ u_) ∧ (u_ ≠ 45 ∨ v_ ≠ 8) ∧ (u_ < 45 + 3 ∨ 45 + 11 ≤ u_) ∧ (u_ ≠ 45 + 11 ∨ v_ ≠ 1) ∧ (u_ ≠ 45 + 11 ∨ v_ ≠ 4) ∧ (u_ ≠ 45 + 11 ∨ v_ ≠ 11) ∧ (u_ < 45 + 12 ∨ 45 + 28 ≤ u_) ∧ (u_ < 73 ∨ 73 + 28 ≤ u_) → M' u_ v_ = M u_ v_) ∧ Gd M' 37 (45 + 1) ∧ (z = 0 ∨ (z = 1))
set_option maxHeartbeats 4000000 in
set_option maxRecDepth 100000 in
theorem ctX9_land (Γ : Gam) (M : zM) (log : Int) (hlogl : (-2147483648) ≤ log) (hlogu : log ≤ 2147483647) (village : Int) (hvillagel : (-2147483648) ≤ village) (hvillageu : village ≤ 2147483647) (gd0 : Gd M 37 (45 + 1)) : CtI Γ yX9_land cX9_land 3 (some .boolean) 1 21 [aR Γ 0, vI log, vI village] M (qctX9_land M log village) := by
  refine met_i (by decide) (Nat.le_of_ble_eq_true rfl) (fun x hx hr => ?_)
  show G Γ x 3 (QI Γ x (qctX9_land M log village)) M 0 [(0, aR Γ 0), (1, vI log), (2, vI village)] []
  refine g_aload_n (n := 1) hx 0 (dq tX9_land 0 rfl) rfl rfl ?_
  refine g_iload_n (n := 2) hx 1 (dq tX9_land 1 rfl) rfl rfl ?_
  refine g_callVi (n := 5) (As := [vI log]) (rest := []) hx (ctX9_isLog Γ M log (by omega) (by omega)) mlX9_180 (obX9 (by decide)) (dq tX9_land 2 rfl) rfl (Nat.le_of_ble_eq_true rfl) (Nat.le_of_ble_eq_true rfl) (Nat.le_of_ble_eq_true rfl) rfl (fun z_1 M_2 h_3 p_4 => ?_)
  obtain ⟨rfl, b_6⟩ := p_4
  refine g_if_eq (n := 8) (t := 43) hx (dq tX9_land 3 rfl) (by decide) rfl h_3 (fun c_10 => ?_) (fun c_10 => ?_)
  · clear b_6
    refine g_iconst (n := 44) hx (dq tX9_land 21 rfl) rfl ?_
    exact g_zret hx hr (dq tX9_land 22 rfl) (by omega) ⟨(fun _ _ _ => rfl), gd0, (by omega)⟩
  · have b_6 := b_6.resolve_left c_10
    obtain ⟨-, h_7, h_8, h_9⟩ := b_6
    refine g_aload_n (n := 9) hx 0 (dq tX9_land 4 rfl) rfl rfl ?_
    refine g_iload_n (n := 10) hx 2 (dq tX9_land 5 rfl) rfl rfl ?_
    refine g_callVi (n := 13) (As := [vI village]) (rest := []) hx (ctX9_isVillage Γ M village (by omega) (by omega)) mlX9_136 (obX9 (by decide)) (dq tX9_land 6 rfl) rfl (Nat.le_of_ble_eq_true rfl) (Nat.le_of_ble_eq_true rfl) (Nat.le_of_ble_eq_true rfl) rfl (fun z_11 M_12 h_13 p_14 => ?_)
    obtain ⟨rfl, b_16⟩ := p_14
    refine g_if_eq (n := 16) (t := 43) hx (dq tX9_land 7 rfl) (by decide) rfl h_13 (fun c_20 => ?_) (fun c_20 => ?_)
    · clear b_16
      refine g_iconst (n := 44) hx (dq tX9_land 21 rfl) rfl ?_
      exact g_zret hx hr (dq tX9_land 22 rfl) (by omega) ⟨(fun _ _ _ => rfl), gd0, (by omega)⟩
    · have b_16 := b_16.resolve_left c_20
      obtain ⟨-, h_17, h_18, h_19⟩ := b_16
      refine g_aload_n (n := 17) hx 0 (dq tX9_land 8 rfl) rfl rfl ?_
      refine g_getR (n := 20) hx glX9_47 (sX9_5 (by decide)) (dq tX9_land 9 rfl) rfl ?_
      refine g_getR (n := 23) hx glX9_100 (sX8_1 (by decide)) (dq tX9_land 10 rfl) rfl ?_
      refine g_getR (n := 26) hx glX9_192 (sX6_8 (iX8_1 (by decide))) (dq tX9_land 11 rfl) rfl ?_
      refine g_iload_n (n := 27) hx 1 (dq tX9_land 12 rfl) rfl rfl ?_
      refine g_iald (n := 28) (q := log.toNat) hx (aX6_8 (b := 45 + 1) (iX8_1 (by decide))) (dq tX9_land 13 rfl) rfl (by omega) (by omega) (by omega) rfl (fun h_21l h_21u => ?_)
      refine g_aload_n (n := 29) hx 0 (dq tX9_land 14 rfl) rfl rfl ?_
      refine g_getR (n := 32) hx glX9_47 (sX9_5 (by decide)) (dq tX9_land 15 rfl) rfl ?_
      refine g_getR (n := 35) hx glX9_51 (sX8_0 (by decide)) (dq tX9_land 16 rfl) rfl ?_
      refine g_getR (n := 38) hx glX9_168 (sX2_5 (by decide)) (dq tX9_land 17 rfl) rfl ?_
      refine g_iload_n (n := 39) hx 2 (dq tX9_land 18 rfl) rfl rfl ?_
      refine g_iald (n := 40) (q := village.toNat) hx (aX2_5 (b := 37) (by decide)) (dq tX9_land 19 rfl) rfl (by omega) (by omega) (by omega) rfl (fun h_22l h_22u => ?_)
      refine g_icmp_eq (n := 43) (t := 45) hx (dq tX9_land 20 rfl) (by decide) rfl (zrI h_21l h_21u (by decide) (by decide)) (zrI h_22l h_22u (by decide) (by decide)) (fun c_23 => ?_) (fun c_23 => ?_)
      · refine g_aload_n (n := 46) hx 0 (dq tX9_land 23 rfl) rfl rfl ?_
        refine g_getR (n := 49) hx glX9_47 (sX9_5 (by decide)) (dq tX9_land 24 rfl) rfl ?_
        refine g_getR (n := 52) hx glX9_100 (sX8_1 (by decide)) (dq tX9_land 25 rfl) rfl ?_
        refine g_getR (n := 55) hx glX9_192 (sX6_8 (iX8_1 (by decide))) (dq tX9_land 26 rfl) rfl ?_
        refine g_iload_n (n := 56) hx 1 (dq tX9_land 27 rfl) rfl rfl ?_
        refine g_bipush (n := 58) hx (dq tX9_land 28 rfl) rfl (by decide) ?_
        refine g_iload_n (n := 59) hx 2 (dq tX9_land 29 rfl) rfl rfl ?_
        refine g_iadd (n := 60) hx (dq tX9_land 30 rfl) rfl ?_
        refine g_iast (n := 61) (q := log.toNat) hx (aX6_8 (b := 45 + 1) (iX8_1 (by decide))) (dq tX9_land 31 rfl) rfl (by omega) (by omega) (by omega) rfl (by omega) (by omega) (fun M_24 m_25e m_25 => ?_)
        have g_26 := Gd.place gd0 m_25e m_25 (by omega) (by omega) (by omega) (by omega)
        refine g_iconst (n := 62) hx (dq tX9_land 32 rfl) rfl ?_
        exact g_zret hx hr (dq tX9_land 33 rfl) (by omega) ⟨(fun u_ v_ huv_ => (m_25 u_ v_ (by omega))), g_26, (by omega)⟩
      · refine g_iconst (n := 44) hx (dq tX9_land 21 rfl) rfl ?_
        exact g_zret hx hr (dq tX9_land 22 rfl) (by omega) ⟨(fun _ _ _ => rfl), gd0, (by omega)⟩

abbrev qctX9_burn (M : zM) (log : Int) (z : Int) (M' : zM) : Prop := (∀ u_ v_, (u_ < 0 + 3 ∨ 0 + 7 ≤ u_) ∧ (u_ ≠ 45 ∨ v_ ≠ 8) ∧ (u_ < 45 + 3 ∨ 45 + 11 ≤ u_) ∧ (u_ ≠ 45 + 11 ∨ v_ ≠ 1) ∧ (u_ ≠ 45 + 11 ∨ v_ ≠ 4) ∧ (u_ ≠ 45 + 11 ∨ v_ ≠ 11) ∧ (u_ < 45 + 12 ∨ 45 + 28 ≤ u_) ∧ (u_ < 73 ∨ 73 + 28 ≤ u_) → M' u_ v_ = M u_ v_) ∧ Gd M' 37 (45 + 1)
set_option maxHeartbeats 4000000 in
set_option maxRecDepth 100000 in
theorem ctX9_burn (Γ : Gam) (M : zM) (log : Int) (hlogl : (-2147483648) ≤ log) (hlogu : log ≤ 2147483647) (gd0 : Gd M 37 (45 + 1)) : CtI Γ yX9_burn cX9_burn 3 (some .int) 3 79 [aR Γ 0, vI log] M (qctX9_burn M log) := by
  refine met_i (by decide) (Nat.le_of_ble_eq_true rfl) (fun x hx hr => ?_)
  show G Γ x 3 (QI Γ x (qctX9_burn M log)) M 0 [(0, aR Γ 0), (1, vI log)] []
  refine g_aload_n (n := 1) hx 0 (dq tX9_burn 0 rfl) rfl rfl ?_
  refine g_iload_n (n := 2) hx 1 (dq tX9_burn 1 rfl) rfl rfl ?_
  refine g_callVi (n := 5) (As := [vI log]) (rest := []) hx (ctX9_isLog Γ M log (by omega) (by omega)) mlX9_180 (obX9 (by decide)) (dq tX9_burn 2 rfl) rfl (Nat.le_of_ble_eq_true rfl) (Nat.le_of_ble_eq_true rfl) (Nat.le_of_ble_eq_true rfl) rfl (fun z_1 M_2 h_3 p_4 => ?_)
  obtain ⟨rfl, b_6⟩ := p_4
  refine g_if_eq (n := 8) (t := 22) hx (dq tX9_burn 3 rfl) (by decide) rfl h_3 (fun c_10 => ?_) (fun c_10 => ?_)
  · clear b_6
    refine g_bipush (n := 24) hx (dq tX9_burn 10 rfl) rfl (by decide) ?_
    exact g_iret hx hr (dq tX9_burn 11 rfl) ⟨by decide, by decide⟩ ⟨(fun _ _ _ => rfl), gd0⟩
  · have b_6 := b_6.resolve_left c_10
    obtain ⟨-, h_7, h_8, h_9⟩ := b_6
    refine g_aload_n (n := 9) hx 0 (dq tX9_burn 4 rfl) rfl rfl ?_
    refine g_getR (n := 12) hx glX9_47 (sX9_5 (by decide)) (dq tX9_burn 5 rfl) rfl ?_
    refine g_getR (n := 15) hx glX9_100 (sX8_1 (by decide)) (dq tX9_burn 6 rfl) rfl ?_
    refine g_iload_n (n := 16) hx 1 (dq tX9_burn 7 rfl) rfl rfl ?_
    refine g_callVi (n := 19) (As := [vI log]) (rest := []) hx (ctX6_isAshore Γ M (45 + 1) (iX8_1 (by decide)) log (by omega) (by omega)) mlX9_250 (obX6 (iX8_1 (by decide))) (dq tX9_burn 8 rfl) rfl (Nat.le_of_ble_eq_true rfl) (Nat.le_of_ble_eq_true rfl) (Nat.le_of_ble_eq_true rfl) rfl (fun z_11 M_12 h_13 p_14 => ?_)
    obtain ⟨rfl, b_16⟩ := p_14
    refine g_if_ne (n := 22) (t := 25) hx (dq tX9_burn 9 rfl) (by decide) rfl h_13 (fun c_19 => ?_) (fun c_19 => ?_)
    · have b_16 := b_16.resolve_left c_19
      obtain ⟨-, h_17, h_18⟩ := b_16
      refine g_aload_n (n := 26) hx 0 (dq tX9_burn 12 rfl) rfl rfl ?_
      refine g_getR (n := 29) hx glX9_47 (sX9_5 (by decide)) (dq tX9_burn 13 rfl) rfl ?_
      refine g_iload_n (n := 30) hx 1 (dq tX9_burn 14 rfl) rfl rfl ?_
      refine g_callVi (n := 33) (As := [vI log]) (rest := []) hx (ctX8_priceOf Γ M 45 (by decide) log (by omega) (by omega) (by omega) gd0) mlX9_201 (obX8 (by decide)) (dq tX9_burn 15 rfl) rfl (Nat.le_of_ble_eq_true rfl) (Nat.le_of_ble_eq_true rfl) (Nat.le_of_ble_eq_true rfl) rfl (fun z_20 M_21 h_22 p_23 => ?_)
      obtain rfl := p_23
      refine g_istore_n (n := 34) (lv' := [(2, vI z_20), (0, aR Γ 0), (1, vI log)]) hx (dq tX9_burn 16 rfl) (by decide) rfl rfl ?_
      refine g_aload_n (n := 35) hx 1 (dq tX9_burn 17 rfl) rfl rfl ?_
      refine g_getR (n := 38) hx glX9_47 (sX9_5 (by decide)) (dq tX9_burn 18 rfl) rfl ?_
      refine g_getR (n := 41) hx glX9_109 (sX8_2 (by decide)) (dq tX9_burn 19 rfl) rfl ?_
      refine g_aload_n (n := 42) hx 1 (dq tX9_burn 20 rfl) rfl rfl ?_
      refine g_getR (n := 45) hx glX9_47 (sX9_5 (by decide)) (dq tX9_burn 21 rfl) rfl ?_
      refine g_getR (n := 48) hx glX9_100 (sX8_1 (by decide)) (dq tX9_burn 22 rfl) rfl ?_
      refine g_getR (n := 51) hx glX9_192 (sX6_8 (iX8_1 (by decide))) (dq tX9_burn 23 rfl) rfl ?_
      refine g_iload_n (n := 52) hx 2 (dq tX9_burn 24 rfl) rfl rfl ?_
      refine g_iald (n := 53) (q := log.toNat) hx (aX6_8 (b := 45 + 1) (iX8_1 (by decide))) (dq tX9_burn 25 rfl) rfl (by omega) (by omega) (by omega) rfl (fun h_25l h_25u => ?_)
      refine g_iv (fun h_27 => ?_)
      have h_27v : (0 : Int) ≤ M 37 1 ∧ M 37 1 ≤ 6 := h_27 37 1
      have h_27l : (0 : Int) ≤ M 37 3 ∧ M 37 3 ≤ 12 := h_27 37 3
      clear h_27
      have h_26 := gd0.2.2.1 log.toNat (by omega)
      refine g_bipush (n := 55) hx (dq tX9_burn 26 rfl) rfl (by decide) ?_
      refine g_isub (n := 56) hx (dq tX9_burn 27 rfl) rfl ?_
      refine g_aload_n (n := 57) hx 1 (dq tX9_burn 28 rfl) rfl rfl ?_
      refine g_getR (n := 60) hx glX9_47 (sX9_5 (by decide)) (dq tX9_burn 29 rfl) rfl ?_
      refine g_iload_n (n := 61) hx 2 (dq tX9_burn 30 rfl) rfl rfl ?_
      refine g_callVi (n := 64) (As := [vI log]) (rest := [vI ((M (45 + 1 + 3) log.toNat) - 20), aR Γ (45 + 11)]) hx (ctX8_ownerOf Γ M 45 (by decide) log (by omega) (by omega) (by omega) gd0) mlX9_198 (obX8 (by decide)) (dq tX9_burn 31 rfl) rfl (Nat.le_of_ble_eq_true rfl) (Nat.le_of_ble_eq_true rfl) (Nat.le_of_ble_eq_true rfl) rfl (fun z_28 M_29 h_30 p_31 => ?_)
      obtain ⟨rfl, h_33, h_34⟩ := p_31
      refine g_iload_n (n := 65) hx 0 (dq tX9_burn 32 rfl) rfl rfl ?_
      refine g_callVv (n := 68) (As := [vI ((M (45 + 1 + 3) log.toNat) - 20), vI z_28, vI z_20]) (rest := []) hx (ctX0_owe Γ M (45 + 11) (iX8_2 (by decide)) ((M (45 + 1 + 3) log.toNat) - 20) (by omega) (by omega) z_28 (by omega) (by omega) z_20 (by omega) (by omega)) mlX9_256 (obX0 (iX8_2 (by decide))) (dq tX9_burn 33 rfl) rfl (Nat.le_of_ble_eq_true rfl) (Nat.le_of_ble_eq_true rfl) (Nat.le_of_ble_eq_true rfl) rfl (fun M_36 p_38 => ?_)
      have f_39 := p_38
      have g_40 : Gd M_36 37 (45 + 1) := Gd.frame gd0 (fun c j hcj => f_39 c j (by omega))
      refine g_aload_n (n := 69) hx 1 (dq tX9_burn 34 rfl) rfl rfl ?_
      refine g_getR (n := 72) hx glX9_47 (sX9_5 (by decide)) (dq tX9_burn 35 rfl) rfl ?_
      refine g_getR (n := 75) hx glX9_100 (sX8_1 (by decide)) (dq tX9_burn 36 rfl) rfl ?_
      refine g_getR (n := 78) hx glX9_192 (sX6_8 (iX8_1 (by decide))) (dq tX9_burn 37 rfl) rfl ?_
      refine g_iload_n (n := 79) hx 2 (dq tX9_burn 38 rfl) rfl rfl ?_
      refine g_bipush (n := 81) hx (dq tX9_burn 39 rfl) rfl (by decide) ?_
      have e_41 : M_36 37 1 = M 37 1 := (f_39 37 1 (by omega))
      have e_42 : M_36 37 3 = M 37 3 := (f_39 37 3 (by omega))
      refine g_iast (n := 82) (q := log.toNat) hx (aX6_8 (b := 45 + 1) (iX8_1 (by decide))) (dq tX9_burn 40 rfl) rfl (by omega) (by omega) (by omega) rfl (by omega) (by omega) (fun M_43 m_44e m_44 => ?_)
      have g_45 := Gd.place g_40 m_44e m_44 (by omega) (by omega) (by omega) (by omega)
      refine g_iload_n (n := 83) hx 0 (dq tX9_burn 41 rfl) rfl rfl ?_
      exact g_iret hx hr (dq tX9_burn 42 rfl) h_22 ⟨(fun u_ v_ huv_ => ((m_44 u_ v_ (by omega)).trans (f_39 u_ v_ (by omega)))), g_45⟩
    · clear b_16
      refine g_bipush (n := 24) hx (dq tX9_burn 10 rfl) rfl (by decide) ?_
      exact g_iret hx hr (dq tX9_burn 11 rfl) ⟨by decide, by decide⟩ ⟨(fun _ _ _ => rfl), gd0⟩

abbrev qctX9_saw (M : zM) (log : Int) (n : Int) (z : Int) (M' : zM) : Prop := (∀ u_ v_, (u_ < 0 + 3 ∨ 0 + 7 ≤ u_) ∧ (u_ ≠ 45 ∨ v_ ≠ 8) ∧ (u_ < 45 + 3 ∨ 45 + 11 ≤ u_) ∧ (u_ ≠ 45 + 11 ∨ v_ ≠ 1) ∧ (u_ ≠ 45 + 11 ∨ v_ ≠ 4) ∧ (u_ ≠ 45 + 11 ∨ v_ ≠ 11) ∧ (u_ < 45 + 12 ∨ 45 + 28 ≤ u_) ∧ (u_ < 73 ∨ 73 + 28 ≤ u_) → M' u_ v_ = M u_ v_) ∧ Gd M' 37 (45 + 1)
set_option maxHeartbeats 4000000 in
set_option maxRecDepth 100000 in
theorem ctX9_saw (Γ : Gam) (M : zM) (log : Int) (hlogl : (-2147483648) ≤ log) (hlogu : log ≤ 2147483647) (n : Int) (hnl : (-2147483648) ≤ n) (hnu : n ≤ 2147483647) (gd0 : Gd M 37 (45 + 1)) : CtI Γ yX9_saw cX9_saw 3 (some .int) 1 21 [aR Γ 0, vI log, vI n] M (qctX9_saw M log n) := by
  refine met_i (by decide) (Nat.le_of_ble_eq_true rfl) (fun x hx hr => ?_)
  show G Γ x 3 (QI Γ x (qctX9_saw M log n)) M 0 [(0, aR Γ 0), (1, vI log), (2, vI n)] []
  refine g_aload_n (n := 1) hx 0 (dq tX9_saw 0 rfl) rfl rfl ?_
  refine g_iload_n (n := 2) hx 1 (dq tX9_saw 1 rfl) rfl rfl ?_
  refine g_callVi (n := 5) (As := [vI log]) (rest := []) hx (ctX9_isLog Γ M log (by omega) (by omega)) mlX9_180 (obX9 (by decide)) (dq tX9_saw 2 rfl) rfl (Nat.le_of_ble_eq_true rfl) (Nat.le_of_ble_eq_true rfl) (Nat.le_of_ble_eq_true rfl) rfl (fun z_1 M_2 h_3 p_4 => ?_)
  obtain ⟨rfl, b_6⟩ := p_4
  refine g_if_eq (n := 8) (t := 43) hx (dq tX9_saw 3 rfl) (by decide) rfl h_3 (fun c_10 => ?_) (fun c_10 => ?_)
  · clear b_6
    refine g_bipush (n := 45) hx (dq tX9_saw 21 rfl) rfl (by decide) ?_
    exact g_iret hx hr (dq tX9_saw 22 rfl) ⟨by decide, by decide⟩ ⟨(fun _ _ _ => rfl), gd0⟩
  · have b_6 := b_6.resolve_left c_10
    obtain ⟨-, h_7, h_8, h_9⟩ := b_6
    refine g_aload_n (n := 9) hx 0 (dq tX9_saw 4 rfl) rfl rfl ?_
    refine g_getR (n := 12) hx glX9_47 (sX9_5 (by decide)) (dq tX9_saw 5 rfl) rfl ?_
    refine g_getR (n := 15) hx glX9_100 (sX8_1 (by decide)) (dq tX9_saw 6 rfl) rfl ?_
    refine g_iload_n (n := 16) hx 1 (dq tX9_saw 7 rfl) rfl rfl ?_
    refine g_callVi (n := 19) (As := [vI log]) (rest := []) hx (ctX6_isGone Γ M (45 + 1) (iX8_1 (by decide)) log (by omega) (by omega)) mlX9_260 (obX6 (iX8_1 (by decide))) (dq tX9_saw 8 rfl) rfl (Nat.le_of_ble_eq_true rfl) (Nat.le_of_ble_eq_true rfl) (Nat.le_of_ble_eq_true rfl) rfl (fun z_11 M_12 h_13 p_14 => ?_)
    obtain ⟨rfl, b_16⟩ := p_14
    refine g_if_ne (n := 22) (t := 43) hx (dq tX9_saw 9 rfl) (by decide) rfl h_13 (fun c_18 => ?_) (fun c_18 => ?_)
    · have b_16 := b_16.resolve_left c_18
      obtain ⟨-, h_17⟩ := b_16
      refine g_bipush (n := 45) hx (dq tX9_saw 21 rfl) rfl (by decide) ?_
      exact g_iret hx hr (dq tX9_saw 22 rfl) ⟨by decide, by decide⟩ ⟨(fun _ _ _ => rfl), gd0⟩
    · clear b_16
      refine g_iload_n (n := 23) hx 2 (dq tX9_saw 10 rfl) rfl rfl ?_
      refine g_iconst (n := 24) hx (dq tX9_saw 11 rfl) rfl ?_
      refine g_icmp_lt (n := 27) (t := 43) hx (dq tX9_saw 12 rfl) (by decide) rfl (zrI hnl hnu (by decide) (by decide)) ⟨by decide, by decide⟩ (fun c_19 => ?_) (fun c_19 => ?_)
      · refine g_bipush (n := 45) hx (dq tX9_saw 21 rfl) rfl (by decide) ?_
        exact g_iret hx hr (dq tX9_saw 22 rfl) ⟨by decide, by decide⟩ ⟨(fun _ _ _ => rfl), gd0⟩
      · refine g_iload_n (n := 28) hx 2 (dq tX9_saw 13 rfl) rfl rfl ?_
        refine g_aload_n (n := 29) hx 0 (dq tX9_saw 14 rfl) rfl rfl ?_
        refine g_getR (n := 32) hx glX9_47 (sX9_5 (by decide)) (dq tX9_saw 15 rfl) rfl ?_
        refine g_getR (n := 35) hx glX9_100 (sX8_1 (by decide)) (dq tX9_saw 16 rfl) rfl ?_
        refine g_getR (n := 38) hx glX9_186 (sX6_9 (iX8_1 (by decide))) (dq tX9_saw 17 rfl) rfl ?_
        refine g_iload_n (n := 39) hx 1 (dq tX9_saw 18 rfl) rfl rfl ?_
        refine g_iald (n := 40) (q := log.toNat) hx (aX6_9 (b := 45 + 1) (iX8_1 (by decide))) (dq tX9_saw 19 rfl) rfl (by omega) (by omega) (by omega) rfl (fun h_20l h_20u => ?_)
        refine g_icmp_lt (n := 43) (t := 46) hx (dq tX9_saw 20 rfl) (by decide) rfl (zrI hnl hnu (by decide) (by decide)) (zrI h_20l h_20u (by decide) (by decide)) (fun c_21 => ?_) (fun c_21 => ?_)
        · refine g_aload_n (n := 47) hx 0 (dq tX9_saw 23 rfl) rfl rfl ?_
          refine g_getR (n := 50) hx glX9_47 (sX9_5 (by decide)) (dq tX9_saw 24 rfl) rfl ?_
          refine g_getR (n := 53) hx glX9_100 (sX8_1 (by decide)) (dq tX9_saw 25 rfl) rfl ?_
          refine g_getR (n := 56) hx glX9_186 (sX6_9 (iX8_1 (by decide))) (dq tX9_saw 26 rfl) rfl ?_
          refine g_iload_n (n := 57) hx 1 (dq tX9_saw 27 rfl) rfl rfl ?_
          refine g_dup2 (n := 58) hx (dq tX9_saw 28 rfl) rfl rfl rfl ?_
          refine g_iald (n := 59) (q := log.toNat) hx (aX6_9 (b := 45 + 1) (iX8_1 (by decide))) (dq tX9_saw 29 rfl) rfl (by omega) (by omega) (by omega) rfl (fun h_22l h_22u => ?_)
          refine g_iload_n (n := 60) hx 2 (dq tX9_saw 30 rfl) rfl rfl ?_
          refine g_isub (n := 61) hx (dq tX9_saw 31 rfl) rfl ?_
          refine g_iast (n := 62) (q := log.toNat) hx (aX6_9 (b := 45 + 1) (iX8_1 (by decide))) (dq tX9_saw 32 rfl) rfl (by omega) (by omega) (by omega) rfl (by omega) (by omega) (fun M_23 m_24e m_24 => ?_)
          have g_25 : Gd M_23 37 (45 + 1) := Gd.frame gd0 (fun c j hcj => m_24 c j (by omega))
          refine g_aload_n (n := 63) hx 0 (dq tX9_saw 33 rfl) rfl rfl ?_
          refine g_getR (n := 66) hx glX9_47 (sX9_5 (by decide)) (dq tX9_saw 34 rfl) rfl ?_
          refine g_getR (n := 69) hx glX9_100 (sX8_1 (by decide)) (dq tX9_saw 35 rfl) rfl ?_
          refine g_getR (n := 72) hx glX9_186 (sX6_9 (iX8_1 (by decide))) (dq tX9_saw 36 rfl) rfl ?_
          refine g_iload_n (n := 73) hx 1 (dq tX9_saw 37 rfl) rfl rfl ?_
          refine g_iald (n := 74) (q := log.toNat) hx (aX6_9 (b := 45 + 1) (iX8_1 (by decide))) (dq tX9_saw 38 rfl) rfl (by omega) (by omega) (by omega) rfl (fun h_26l h_26u => ?_)
          exact g_iret hx hr (dq tX9_saw 39 rfl) (zrI h_26l h_26u (by decide) (by decide)) ⟨(fun u_ v_ huv_ => (m_24 u_ v_ (by omega))), g_25⟩
        · refine g_bipush (n := 45) hx (dq tX9_saw 21 rfl) rfl (by decide) ?_
          exact g_iret hx hr (dq tX9_saw 22 rfl) ⟨by decide, by decide⟩ ⟨(fun _ _ _ => rfl), gd0⟩

abbrev qctX9_ahead (M : zM) (log : Int) (place : Int) (z : Int) (M' : zM) : Prop := (∀ u_ v_, (u_ < 0 + 3 ∨ 0 + 7 ≤ u_) ∧ (u_ ≠ 45 ∨ v_ ≠ 8) ∧ (u_ < 45 + 3 ∨ 45 + 11 ≤ u_) ∧ (u_ ≠ 45 + 11 ∨ v_ ≠ 1) ∧ (u_ ≠ 45 + 11 ∨ v_ ≠ 4) ∧ (u_ ≠ 45 + 11 ∨ v_ ≠ 11) ∧ (u_ < 45 + 12 ∨ 45 + 28 ≤ u_) ∧ (u_ < 73 ∨ 73 + 28 ≤ u_) → M' u_ v_ = M u_ v_) ∧ Gd M' 37 (45 + 1)
set_option maxHeartbeats 4000000 in
set_option maxRecDepth 100000 in
theorem ctX9_ahead (Γ : Gam) (M : zM) (log : Int) (hlogl : (-2147483648) ≤ log) (hlogu : log ≤ 2147483647) (place : Int) (hplacel : (-2147483648) ≤ place) (hplaceu : place ≤ 2147483647) (gd0 : Gd M 37 (45 + 1)) : CtI Γ yX9_ahead cX9_ahead 6 (some .int) 1 22 [aR Γ 0, vI log, vI place] M (qctX9_ahead M log place) := by
  refine met_i (by decide) (Nat.le_of_ble_eq_true rfl) (fun x hx hr => ?_)
  show G Γ x 6 (QI Γ x (qctX9_ahead M log place)) M 0 [(0, aR Γ 0), (1, vI log), (2, vI place)] []
  have hlg := gd0.2.2.2.2
  refine g_aload_n (n := 1) hx 0 (dq tX9_ahead 0 rfl) rfl rfl ?_
  refine g_iload_n (n := 2) hx 1 (dq tX9_ahead 1 rfl) rfl rfl ?_
  refine g_callVi (n := 5) (As := [vI log]) (rest := []) hx (ctX9_isLog Γ M log (by omega) (by omega)) mlX9_180 (obX9 (by decide)) (dq tX9_ahead 2 rfl) rfl (Nat.le_of_ble_eq_true rfl) (Nat.le_of_ble_eq_true rfl) (Nat.le_of_ble_eq_true rfl) rfl (fun z_1 M_2 h_3 p_4 => ?_)
  obtain ⟨rfl, b_6⟩ := p_4
  refine g_if_eq (n := 8) (t := 16) hx (dq tX9_ahead 3 rfl) (by decide) rfl h_3 (fun c_10 => ?_) (fun c_10 => ?_)
  · clear b_6
    refine g_bipush (n := 18) hx (dq tX9_ahead 8 rfl) rfl (by decide) ?_
    exact g_iret hx hr (dq tX9_ahead 9 rfl) ⟨by decide, by decide⟩ ⟨(fun _ _ _ => rfl), gd0⟩
  · have b_6 := b_6.resolve_left c_10
    obtain ⟨-, h_7, h_8, h_9⟩ := b_6
    refine g_aload_n (n := 9) hx 0 (dq tX9_ahead 4 rfl) rfl rfl ?_
    refine g_iload_n (n := 10) hx 2 (dq tX9_ahead 5 rfl) rfl rfl ?_
    refine g_callVi (n := 13) (As := [vI place]) (rest := []) hx (ctX9_isLog Γ M place (by omega) (by omega)) mlX9_180 (obX9 (by decide)) (dq tX9_ahead 6 rfl) rfl (Nat.le_of_ble_eq_true rfl) (Nat.le_of_ble_eq_true rfl) (Nat.le_of_ble_eq_true rfl) rfl (fun z_11 M_12 h_13 p_14 => ?_)
    obtain ⟨rfl, b_16⟩ := p_14
    refine g_if_ne (n := 16) (t := 19) hx (dq tX9_ahead 7 rfl) (by decide) rfl h_13 (fun c_20 => ?_) (fun c_20 => ?_)
    · have b_16 := b_16.resolve_left c_20
      obtain ⟨-, h_17, h_18, h_19⟩ := b_16
      refine g_aload_n (n := 20) hx 0 (dq tX9_ahead 10 rfl) rfl rfl ?_
      refine g_getR (n := 23) hx glX9_47 (sX9_5 (by decide)) (dq tX9_ahead 11 rfl) rfl ?_
      refine g_getR (n := 26) hx glX9_100 (sX8_1 (by decide)) (dq tX9_ahead 12 rfl) rfl ?_
      refine g_getR (n := 29) hx glX9_263 (sX6_12 (iX8_1 (by decide))) (dq tX9_ahead 13 rfl) rfl ?_
      refine g_astore_n (n := 30) (lv' := [(3, aR Γ (45 + 1 + 7)), (0, aR Γ 0), (1, vI log), (2, vI place)]) hx (dq tX9_ahead 14 rfl) (by decide) rfl rfl ?_
      refine g_aload_n (n := 31) hx 1 (dq tX9_ahead 15 rfl) rfl rfl ?_
      refine g_getR (n := 34) hx glX9_47 (sX9_5 (by decide)) (dq tX9_ahead 16 rfl) rfl ?_
      refine g_getR (n := 37) hx glX9_100 (sX8_1 (by decide)) (dq tX9_ahead 17 rfl) rfl ?_
      refine g_iload_n (n := 38) hx 2 (dq tX9_ahead 18 rfl) rfl rfl ?_
      refine g_callVi (n := 41) (As := [vI log]) (rest := []) hx (ctX6_placeInOrder Γ M (45 + 1) (iX8_1 (by decide)) log (by omega) (by omega)) mlX9_210 (obX6 (iX8_1 (by decide))) (dq tX9_ahead 19 rfl) rfl (Nat.le_of_ble_eq_true rfl) (Nat.le_of_ble_eq_true rfl) (Nat.le_of_ble_eq_true rfl) rfl (fun z_21 M_22 h_23 p_24 => ?_)
      obtain ⟨rfl, h_26, h_27, h_28⟩ := p_24
      refine g_istore (n := 43) (lv' := [(4, vI z_21), (3, aR Γ (45 + 1 + 7)), (0, aR Γ 0), (1, vI log), (2, vI place)]) hx (dq tX9_ahead 20 rfl) (by decide) rfl rfl ?_
      refine g_iload (n := 45) hx 0 (dq tX9_ahead 21 rfl) rfl rfl ?_
      refine g_istore (n := 47) (lv' := [(5, vI z_21), (4, vI z_21), (3, aR Γ (45 + 1 + 7)), (0, aR Γ 0), (1, vI log), (2, vI place)]) hx (dq tX9_ahead 22 rfl) (by decide) rfl rfl ?_
      have L_31 : ∀ (n_ : Nat) (i_29 : Int) (M_30 : zM), (0 ≤ i_29) → (i_29 ≤ 11) → (∀ u_ v_, u_ ≠ 45 + 1 + 7 → M_30 u_ v_ = M u_ v_) → (Gd M_30 37 (45 + 1)) → (i_29 ≤ z_21) → ((i_29 - 0).toNat = n_) → G Γ x 6 (QI Γ x (qctX9_ahead M log place)) M_30 47 [(5, vI i_29), (4, vI z_21), (3, aR Γ (45 + 1 + 7)), (0, aR Γ 0), (1, vI log), (2, vI place)] [] := by
        intro n_
        induction n_ using Nat.strongRecOn with
        | _ n_ ih_32 =>
          intro i_29 M_30 h_37 h_38 f_33 g_34 h_36 hm_35
          refine g_iload (n := 49) hx 0 (dq tX9_ahead 23 rfl) rfl rfl ?_
          refine g_iload_n (n := 50) hx 5 (dq tX9_ahead 24 rfl) rfl rfl ?_
          refine g_icmp_le (n := 53) (t := 69) hx (dq tX9_ahead 25 rfl) (by decide) rfl ⟨by omega, by omega⟩ (zrI hplacel hplaceu (by decide) (by decide)) (fun c_39 => ?_) (fun c_39 => ?_)
          · refine g_iload (n := 71) hx 1 (dq tX9_ahead 36 rfl) rfl rfl ?_
            refine g_istore (n := 73) (lv' := [(5, vI z_21), (4, vI z_21), (3, aR Γ (45 + 1 + 7)), (0, aR Γ 0), (1, vI log), (2, vI place)]) hx (dq tX9_ahead 37 rfl) (by decide) rfl rfl ?_
            have L_42 : ∀ (n_ : Nat) (i_40 : Int) (M_41 : zM), (0 ≤ i_40) → (i_40 ≤ 11) → (∀ u_ v_, u_ ≠ 45 + 1 + 7 → M_41 u_ v_ = M_30 u_ v_) → (Gd M_41 37 (45 + 1)) → ((11 - i_40).toNat = n_) → G Γ x 6 (QI Γ x (qctX9_ahead M log place)) M_41 73 [(5, vI i_40), (4, vI z_21), (3, aR Γ (45 + 1 + 7)), (0, aR Γ 0), (1, vI log), (2, vI place)] [] := by
              intro n_
              induction n_ using Nat.strongRecOn with
              | _ n_ ih_43 =>
                intro i_40 M_41 h_47 h_48 f_44 g_45 hm_46
                refine g_iload (n := 75) hx 0 (dq tX9_ahead 38 rfl) rfl rfl ?_
                refine g_iload_n (n := 76) hx 5 (dq tX9_ahead 39 rfl) rfl rfl ?_
                refine g_icmp_ge (n := 79) (t := 95) hx (dq tX9_ahead 40 rfl) (by decide) rfl ⟨by omega, by omega⟩ (zrI hplacel hplaceu (by decide) (by decide)) (fun c_49 => ?_) (fun c_49 => ?_)
                · refine g_aload_n (n := 96) hx 2 (dq tX9_ahead 51 rfl) rfl rfl ?_
                  refine g_iload_n (n := 97) hx 5 (dq tX9_ahead 52 rfl) rfl rfl ?_
                  refine g_iload_n (n := 98) hx 4 (dq tX9_ahead 53 rfl) rfl rfl ?_
                  have e_50 : M_41 37 1 = M 37 1 := ((f_44 37 1 (by omega))).trans (f_33 37 1 (by omega))
                  have e_51 : M_41 37 3 = M 37 3 := ((f_44 37 3 (by omega))).trans (f_33 37 3 (by omega))
                  refine g_iast (n := 99) (q := place.toNat) hx (aX6_12 (b := 45 + 1) (iX8_1 (by decide))) (dq tX9_ahead 54 rfl) rfl (by omega) (by omega) (by omega) rfl (by omega) (by omega) (fun M_52 m_53e m_53 => ?_)
                  have g_54 := Gd.order g_45 m_53e m_53 (by omega) (by omega) (by omega) (by omega)
                  refine g_iload (n := 101) hx 1 (dq tX9_ahead 55 rfl) rfl rfl ?_
                  exact g_iret hx hr (dq tX9_ahead 56 rfl) h_23 ⟨(fun u_ v_ huv_ => (((m_53 u_ v_ (by omega)).trans (f_44 u_ v_ (by omega))).trans (f_33 u_ v_ (by omega)))), g_54⟩
                · refine g_aload_n (n := 80) hx 2 (dq tX9_ahead 41 rfl) rfl rfl ?_
                  refine g_iload (n := 82) hx 0 (dq tX9_ahead 42 rfl) rfl rfl ?_
                  refine g_aload_n (n := 83) hx 2 (dq tX9_ahead 43 rfl) rfl rfl ?_
                  refine g_iload (n := 85) hx 0 (dq tX9_ahead 44 rfl) rfl rfl ?_
                  refine g_iconst (n := 86) hx (dq tX9_ahead 45 rfl) rfl ?_
                  refine g_iadd (n := 87) hx (dq tX9_ahead 46 rfl) rfl ?_
                  refine g_iald (n := 88) (q := (i_40 + 1).toNat) hx (aX6_12 (b := 45 + 1) (iX8_1 (by decide))) (dq tX9_ahead 47 rfl) rfl (by omega) (by omega) (by omega) rfl (fun h_55l h_55u => ?_)
                  have e_56 : M_41 37 1 = M 37 1 := ((f_44 37 1 (by omega))).trans (f_33 37 1 (by omega))
                  have e_57 : M_41 37 3 = M 37 3 := ((f_44 37 3 (by omega))).trans (f_33 37 3 (by omega))
                  refine g_iv (fun h_59 => ?_)
                  have h_59v : (0 : Int) ≤ M_41 37 1 ∧ M_41 37 1 ≤ 6 := h_59 37 1
                  have h_59l : (0 : Int) ≤ M_41 37 3 ∧ M_41 37 3 ≤ 12 := h_59 37 3
                  clear h_59
                  have h_58 := g_45.2.2.2.1 ((i_40 + 1).toNat) (by omega)
                  refine g_iast (n := 89) (q := i_40.toNat) hx (aX6_12 (b := 45 + 1) (iX8_1 (by decide))) (dq tX9_ahead 48 rfl) rfl (by omega) (by omega) (by omega) rfl (by omega) (by omega) (fun M_60 m_61e m_61 => ?_)
                  have g_62 := Gd.order g_45 m_61e m_61 (by omega) (by omega) (by omega) (by omega)
                  refine g_iinc (n := 92) (lv' := [(5, vI (i_40 + 1)), (4, vI z_21), (3, aR Γ (45 + 1 + 7)), (0, aR Γ 0), (1, vI log), (2, vI place)]) hx 0 (dq tX9_ahead 49 rfl) rfl (by decide) rfl rfl ?_
                  refine g_goto (n := 73) hx (dq tX9_ahead 50 rfl) (by decide) ?_
                  exact ih_43 _ (by omega) (i_40 + 1) M_60 (by omega) (by omega) (fun u_ v_ huv_ => ((m_61 u_ v_ (by omega)).trans (f_44 u_ v_ (by omega)))) g_62 rfl
            exact L_42 _ z_21 M_30 (by omega) (by omega) (fun _ _ _ => rfl) g_34 rfl
          · refine g_aload_n (n := 54) hx 2 (dq tX9_ahead 26 rfl) rfl rfl ?_
            refine g_iload (n := 56) hx 0 (dq tX9_ahead 27 rfl) rfl rfl ?_
            refine g_aload_n (n := 57) hx 2 (dq tX9_ahead 28 rfl) rfl rfl ?_
            refine g_iload (n := 59) hx 0 (dq tX9_ahead 29 rfl) rfl rfl ?_
            refine g_iconst (n := 60) hx (dq tX9_ahead 30 rfl) rfl ?_
            refine g_isub (n := 61) hx (dq tX9_ahead 31 rfl) rfl ?_
            refine g_iald (n := 62) (q := (i_29 - 1).toNat) hx (aX6_12 (b := 45 + 1) (iX8_1 (by decide))) (dq tX9_ahead 32 rfl) rfl (by omega) (by omega) (by omega) rfl (fun h_63l h_63u => ?_)
            have e_64 : M_30 37 1 = M 37 1 := (f_33 37 1 (by omega))
            have e_65 : M_30 37 3 = M 37 3 := (f_33 37 3 (by omega))
            refine g_iv (fun h_67 => ?_)
            have h_67v : (0 : Int) ≤ M_30 37 1 ∧ M_30 37 1 ≤ 6 := h_67 37 1
            have h_67l : (0 : Int) ≤ M_30 37 3 ∧ M_30 37 3 ≤ 12 := h_67 37 3
            clear h_67
            have h_66 := g_34.2.2.2.1 ((i_29 - 1).toNat) (by omega)
            refine g_iast (n := 63) (q := i_29.toNat) hx (aX6_12 (b := 45 + 1) (iX8_1 (by decide))) (dq tX9_ahead 33 rfl) rfl (by omega) (by omega) (by omega) rfl (by omega) (by omega) (fun M_68 m_69e m_69 => ?_)
            have g_70 := Gd.order g_34 m_69e m_69 (by omega) (by omega) (by omega) (by omega)
            refine g_iinc (n := 66) (lv' := [(5, vI (i_29 + (-1))), (4, vI z_21), (3, aR Γ (45 + 1 + 7)), (0, aR Γ 0), (1, vI log), (2, vI place)]) hx 0 (dq tX9_ahead 34 rfl) rfl (by decide) rfl rfl ?_
            refine g_goto (n := 47) hx (dq tX9_ahead 35 rfl) (by decide) ?_
            exact ih_32 _ (by omega) (i_29 + (-1)) M_68 (by omega) (by omega) (fun u_ v_ huv_ => ((m_69 u_ v_ (by omega)).trans (f_33 u_ v_ (by omega)))) g_70 (by first | assumption | omega) rfl
      exact L_31 _ z_21 M (by omega) (by omega) (fun _ _ _ => rfl) gd0 (by first | assumption | omega) rfl
    · clear b_16
      refine g_bipush (n := 18) hx (dq tX9_ahead 8 rfl) rfl (by decide) ?_
      exact g_iret hx hr (dq tX9_ahead 9 rfl) ⟨by decide, by decide⟩ ⟨(fun _ _ _ => rfl), gd0⟩

abbrev qctX9_dam (M : zM) (bend : Int) (z : Int) (M' : zM) : Prop := (∀ u_ v_, (u_ < 0 + 3 ∨ 0 + 7 ≤ u_) ∧ (u_ ≠ 45 ∨ v_ ≠ 8) ∧ (u_ < 45 + 3 ∨ 45 + 11 ≤ u_) ∧ (u_ ≠ 45 + 11 ∨ v_ ≠ 1) ∧ (u_ ≠ 45 + 11 ∨ v_ ≠ 4) ∧ (u_ ≠ 45 + 11 ∨ v_ ≠ 11) ∧ (u_ < 45 + 12 ∨ 45 + 28 ≤ u_) ∧ (u_ < 73 ∨ 73 + 28 ≤ u_) → M' u_ v_ = M u_ v_) ∧ Gd M' 37 (45 + 1)
set_option maxHeartbeats 4000000 in
set_option maxRecDepth 100000 in
theorem ctX9_dam (Γ : Gam) (M : zM) (bend : Int) (hbendl : (-2147483648) ≤ bend) (hbendu : bend ≤ 2147483647) (gd0 : Gd M 37 (45 + 1)) : CtI Γ yX9_dam cX9_dam 2 (some .int) 1 21 [aR Γ 0, vI bend] M (qctX9_dam M bend) := by
  refine met_i (by decide) (Nat.le_of_ble_eq_true rfl) (fun x hx hr => ?_)
  show G Γ x 2 (QI Γ x (qctX9_dam M bend)) M 0 [(0, aR Γ 0), (1, vI bend)] []
  refine g_aload_n (n := 1) hx 0 (dq tX9_dam 0 rfl) rfl rfl ?_
  refine g_iload_n (n := 2) hx 1 (dq tX9_dam 1 rfl) rfl rfl ?_
  refine g_callVi (n := 5) (As := [vI bend]) (rest := []) hx (ctX9_isBend Γ M bend (by omega) (by omega)) mlX9_151 (obX9 (by decide)) (dq tX9_dam 2 rfl) rfl (Nat.le_of_ble_eq_true rfl) (Nat.le_of_ble_eq_true rfl) (Nat.le_of_ble_eq_true rfl) rfl (fun z_1 M_2 h_3 p_4 => ?_)
  obtain ⟨rfl, b_6⟩ := p_4
  refine g_if_eq (n := 8) (t := 24) hx (dq tX9_dam 3 rfl) (by decide) rfl h_3 (fun c_10 => ?_) (fun c_10 => ?_)
  · clear b_6
    refine g_bipush (n := 26) hx (dq tX9_dam 12 rfl) rfl (by decide) ?_
    exact g_iret hx hr (dq tX9_dam 13 rfl) ⟨by decide, by decide⟩ ⟨(fun _ _ _ => rfl), gd0⟩
  · have b_6 := b_6.resolve_left c_10
    obtain ⟨-, h_7, h_8, h_9⟩ := b_6
    refine g_aload_n (n := 9) hx 0 (dq tX9_dam 4 rfl) rfl rfl ?_
    refine g_getR (n := 12) hx glX9_47 (sX9_5 (by decide)) (dq tX9_dam 5 rfl) rfl ?_
    refine g_getR (n := 15) hx glX9_100 (sX8_1 (by decide)) (dq tX9_dam 6 rfl) rfl ?_
    refine g_getR (n := 18) hx glX9_157 (sX6_7 (iX8_1 (by decide))) (dq tX9_dam 7 rfl) rfl ?_
    refine g_iload_n (n := 19) hx 1 (dq tX9_dam 8 rfl) rfl rfl ?_
    refine g_iald (n := 20) (q := bend.toNat) hx (aX6_7 (b := 45 + 1) (iX8_1 (by decide))) (dq tX9_dam 9 rfl) rfl (by omega) (by omega) (by omega) rfl (fun h_11l h_11u => ?_)
    refine g_iconst (n := 21) hx (dq tX9_dam 10 rfl) rfl ?_
    refine g_icmp_lt (n := 24) (t := 27) hx (dq tX9_dam 11 rfl) (by decide) rfl (zrI h_11l h_11u (by decide) (by decide)) ⟨by decide, by decide⟩ (fun c_12 => ?_) (fun c_12 => ?_)
    · refine g_aload_n (n := 28) hx 0 (dq tX9_dam 14 rfl) rfl rfl ?_
      refine g_getR (n := 31) hx glX9_47 (sX9_5 (by decide)) (dq tX9_dam 15 rfl) rfl ?_
      refine g_getR (n := 34) hx glX9_100 (sX8_1 (by decide)) (dq tX9_dam 16 rfl) rfl ?_
      refine g_getR (n := 37) hx glX9_157 (sX6_7 (iX8_1 (by decide))) (dq tX9_dam 17 rfl) rfl ?_
      refine g_iload_n (n := 38) hx 1 (dq tX9_dam 18 rfl) rfl rfl ?_
      refine g_dup2 (n := 39) hx (dq tX9_dam 19 rfl) rfl rfl rfl ?_
      refine g_iald (n := 40) (q := bend.toNat) hx (aX6_7 (b := 45 + 1) (iX8_1 (by decide))) (dq tX9_dam 20 rfl) rfl (by omega) (by omega) (by omega) rfl (fun h_13l h_13u => ?_)
      refine g_iconst (n := 41) hx (dq tX9_dam 21 rfl) rfl ?_
      refine g_iadd (n := 42) hx (dq tX9_dam 22 rfl) rfl ?_
      refine g_iast (n := 43) (q := bend.toNat) hx (aX6_7 (b := 45 + 1) (iX8_1 (by decide))) (dq tX9_dam 23 rfl) rfl (by omega) (by omega) (by omega) rfl (by omega) (by omega) (fun M_14 m_15e m_15 => ?_)
      have g_16 : Gd M_14 37 (45 + 1) := Gd.frame gd0 (fun c j hcj => m_15 c j (by omega))
      refine g_aload_n (n := 44) hx 0 (dq tX9_dam 24 rfl) rfl rfl ?_
      refine g_getR (n := 47) hx glX9_47 (sX9_5 (by decide)) (dq tX9_dam 25 rfl) rfl ?_
      refine g_getR (n := 50) hx glX9_100 (sX8_1 (by decide)) (dq tX9_dam 26 rfl) rfl ?_
      refine g_getR (n := 53) hx glX9_157 (sX6_7 (iX8_1 (by decide))) (dq tX9_dam 27 rfl) rfl ?_
      refine g_iload_n (n := 54) hx 1 (dq tX9_dam 28 rfl) rfl rfl ?_
      refine g_iald (n := 55) (q := bend.toNat) hx (aX6_7 (b := 45 + 1) (iX8_1 (by decide))) (dq tX9_dam 29 rfl) rfl (by omega) (by omega) (by omega) rfl (fun h_17l h_17u => ?_)
      exact g_iret hx hr (dq tX9_dam 30 rfl) (zrI h_17l h_17u (by decide) (by decide)) ⟨(fun u_ v_ huv_ => (m_15 u_ v_ (by omega))), g_16⟩
    · refine g_bipush (n := 26) hx (dq tX9_dam 12 rfl) rfl (by decide) ?_
      exact g_iret hx hr (dq tX9_dam 13 rfl) ⟨by decide, by decide⟩ ⟨(fun _ _ _ => rfl), gd0⟩

abbrev qctX9_appeal (M : zM) (bend : Int) (z : Int) (M' : zM) : Prop := (∀ u_ v_, (u_ < 0 + 3 ∨ 0 + 7 ≤ u_) ∧ (u_ ≠ 45 ∨ v_ ≠ 8) ∧ (u_ < 45 + 3 ∨ 45 + 11 ≤ u_) ∧ (u_ ≠ 45 + 11 ∨ v_ ≠ 1) ∧ (u_ ≠ 45 + 11 ∨ v_ ≠ 4) ∧ (u_ ≠ 45 + 11 ∨ v_ ≠ 11) ∧ (u_ < 45 + 12 ∨ 45 + 28 ≤ u_) ∧ (u_ < 73 ∨ 73 + 28 ≤ u_) → M' u_ v_ = M u_ v_) ∧ Gd M' 37 (45 + 1)
set_option maxHeartbeats 4000000 in
set_option maxRecDepth 100000 in
theorem ctX9_appeal (Γ : Gam) (M : zM) (bend : Int) (hbendl : (-2147483648) ≤ bend) (hbendu : bend ≤ 2147483647) (gd0 : Gd M 37 (45 + 1)) : CtI Γ yX9_appeal cX9_appeal 2 (some .int) 5 125 [aR Γ 0, vI bend] M (qctX9_appeal M bend) := by
  refine met_i (by decide) (Nat.le_of_ble_eq_true rfl) (fun x hx hr => ?_)
  show G Γ x 2 (QI Γ x (qctX9_appeal M bend)) M 0 [(0, aR Γ 0), (1, vI bend)] []
  refine g_aload_n (n := 1) hx 0 (dq tX9_appeal 0 rfl) rfl rfl ?_
  refine g_iload_n (n := 2) hx 1 (dq tX9_appeal 1 rfl) rfl rfl ?_
  refine g_callVi (n := 5) (As := [vI bend]) (rest := []) hx (ctX9_isBend Γ M bend (by omega) (by omega)) mlX9_151 (obX9 (by decide)) (dq tX9_appeal 2 rfl) rfl (Nat.le_of_ble_eq_true rfl) (Nat.le_of_ble_eq_true rfl) (Nat.le_of_ble_eq_true rfl) rfl (fun z_1 M_2 h_3 p_4 => ?_)
  obtain ⟨rfl, b_6⟩ := p_4
  refine g_if_eq (n := 8) (t := 24) hx (dq tX9_appeal 3 rfl) (by decide) rfl h_3 (fun c_10 => ?_) (fun c_10 => ?_)
  · clear b_6
    refine g_bipush (n := 26) hx (dq tX9_appeal 12 rfl) rfl (by decide) ?_
    exact g_iret hx hr (dq tX9_appeal 13 rfl) ⟨by decide, by decide⟩ ⟨(fun _ _ _ => rfl), gd0⟩
  · have b_6 := b_6.resolve_left c_10
    obtain ⟨-, h_7, h_8, h_9⟩ := b_6
    refine g_aload_n (n := 9) hx 0 (dq tX9_appeal 4 rfl) rfl rfl ?_
    refine g_getR (n := 12) hx glX9_47 (sX9_5 (by decide)) (dq tX9_appeal 5 rfl) rfl ?_
    refine g_getR (n := 15) hx glX9_100 (sX8_1 (by decide)) (dq tX9_appeal 6 rfl) rfl ?_
    refine g_getR (n := 18) hx glX9_157 (sX6_7 (iX8_1 (by decide))) (dq tX9_appeal 7 rfl) rfl ?_
    refine g_iload_n (n := 19) hx 1 (dq tX9_appeal 8 rfl) rfl rfl ?_
    refine g_iald (n := 20) (q := bend.toNat) hx (aX6_7 (b := 45 + 1) (iX8_1 (by decide))) (dq tX9_appeal 9 rfl) rfl (by omega) (by omega) (by omega) rfl (fun h_11l h_11u => ?_)
    refine g_iconst (n := 21) hx (dq tX9_appeal 10 rfl) rfl ?_
    refine g_icmp_ge (n := 24) (t := 27) hx (dq tX9_appeal 11 rfl) (by decide) rfl (zrI h_11l h_11u (by decide) (by decide)) ⟨by decide, by decide⟩ (fun c_12 => ?_) (fun c_12 => ?_)
    · refine g_aload_n (n := 28) hx 0 (dq tX9_appeal 14 rfl) rfl rfl ?_
      refine g_getR (n := 31) hx glX9_47 (sX9_5 (by decide)) (dq tX9_appeal 15 rfl) rfl ?_
      refine g_iload_n (n := 32) hx 1 (dq tX9_appeal 16 rfl) rfl rfl ?_
      refine g_callVi (n := 35) (As := [vI bend]) (rest := []) hx (ctX8_tearing Γ M 45 (by decide) bend (by omega) (by omega) gd0) mlX9_266 (obX8 (by decide)) (dq tX9_appeal 17 rfl) rfl (Nat.le_of_ble_eq_true rfl) (Nat.le_of_ble_eq_true rfl) (Nat.le_of_ble_eq_true rfl) rfl (fun z_13 M_14 h_15 p_16 => ?_)
      obtain rfl := p_16
      refine g_callSi (n := 38) (As := [vI z_13]) (rest := []) hx (ctJ6_bitCount_0f7a4 Γ M z_13 (by omega) (by omega)) mlX9_269 (dq tX9_appeal 18 rfl) rfl (Nat.le_of_ble_eq_true rfl) (Nat.le_of_ble_eq_true rfl) (Nat.le_of_ble_eq_true rfl) rfl (fun z_18 M_19 h_20 p_21 => ?_)
      obtain rfl := p_21
      refine g_aload_n (n := 39) hx 0 (dq tX9_appeal 19 rfl) rfl rfl ?_
      refine g_getR (n := 42) hx glX9_47 (sX9_5 (by decide)) (dq tX9_appeal 20 rfl) rfl ?_
      refine g_iload_n (n := 43) hx 1 (dq tX9_appeal 21 rfl) rfl rfl ?_
      refine g_callVi (n := 46) (As := [vI bend]) (rest := [vI z_18]) hx (ctX8_keeping Γ M 45 (by decide) bend (by omega) (by omega) gd0) mlX9_274 (obX8 (by decide)) (dq tX9_appeal 22 rfl) rfl (Nat.le_of_ble_eq_true rfl) (Nat.le_of_ble_eq_true rfl) (Nat.le_of_ble_eq_true rfl) rfl (fun z_23 M_24 h_25 p_26 => ?_)
      obtain rfl := p_26
      refine g_callSi (n := 49) (As := [vI z_23]) (rest := [vI z_18]) hx (ctJ6_bitCount_0f7a4 Γ M z_23 (by omega) (by omega)) mlX9_269 (dq tX9_appeal 23 rfl) rfl (Nat.le_of_ble_eq_true rfl) (Nat.le_of_ble_eq_true rfl) (Nat.le_of_ble_eq_true rfl) rfl (fun z_28 M_29 h_30 p_31 => ?_)
      obtain rfl := p_31
      refine g_icmp_gt (n := 52) (t := 54) hx (dq tX9_appeal 24 rfl) (by decide) rfl h_20 h_30 (fun c_33 => ?_) (fun c_33 => ?_)
      · refine g_aload_n (n := 55) hx 0 (dq tX9_appeal 27 rfl) rfl rfl ?_
        refine g_getR (n := 58) hx glX9_47 (sX9_5 (by decide)) (dq tX9_appeal 28 rfl) rfl ?_
        refine g_getR (n := 61) hx glX9_100 (sX8_1 (by decide)) (dq tX9_appeal 29 rfl) rfl ?_
        refine g_getR (n := 64) hx glX9_157 (sX6_7 (iX8_1 (by decide))) (dq tX9_appeal 30 rfl) rfl ?_
        refine g_iload_n (n := 65) hx 1 (dq tX9_appeal 31 rfl) rfl rfl ?_
        refine g_dup2 (n := 66) hx (dq tX9_appeal 32 rfl) rfl rfl rfl ?_
        refine g_iald (n := 67) (q := bend.toNat) hx (aX6_7 (b := 45 + 1) (iX8_1 (by decide))) (dq tX9_appeal 33 rfl) rfl (by omega) (by omega) (by omega) rfl (fun h_34l h_34u => ?_)
        refine g_iconst (n := 68) hx (dq tX9_appeal 34 rfl) rfl ?_
        refine g_isub (n := 69) hx (dq tX9_appeal 35 rfl) rfl ?_
        refine g_iast (n := 70) (q := bend.toNat) hx (aX6_7 (b := 45 + 1) (iX8_1 (by decide))) (dq tX9_appeal 36 rfl) rfl (by omega) (by omega) (by omega) rfl (by omega) (by omega) (fun M_35 m_36e m_36 => ?_)
        have g_37 : Gd M_35 37 (45 + 1) := Gd.frame gd0 (fun c j hcj => m_36 c j (by omega))
        refine g_iconst (n := 71) hx (dq tX9_appeal 37 rfl) rfl ?_
        exact g_iret hx hr (dq tX9_appeal 38 rfl) ⟨by decide, by decide⟩ ⟨(fun u_ v_ huv_ => (m_36 u_ v_ (by omega))), g_37⟩
      · refine g_iconst (n := 53) hx (dq tX9_appeal 25 rfl) rfl ?_
        exact g_iret hx hr (dq tX9_appeal 26 rfl) ⟨by decide, by decide⟩ ⟨(fun _ _ _ => rfl), gd0⟩
    · refine g_bipush (n := 26) hx (dq tX9_appeal 12 rfl) rfl (by decide) ?_
      exact g_iret hx hr (dq tX9_appeal 13 rfl) ⟨by decide, by decide⟩ ⟨(fun _ _ _ => rfl), gd0⟩

abbrev qctX9_votes (M : zM) (bend : Int) (what : Int) (z : Int) (M' : zM) : Prop := M = M'
set_option maxHeartbeats 4000000 in
set_option maxRecDepth 100000 in
theorem ctX9_votes (Γ : Gam) (M : zM) (bend : Int) (hbendl : (-2147483648) ≤ bend) (hbendu : bend ≤ 2147483647) (what : Int) (hwhatl : (-2147483648) ≤ what) (hwhatu : what ≤ 2147483647) (gd0 : Gd M 37 (45 + 1)) : CtI Γ yX9_votes cX9_votes 3 (some .int) 5 125 [aR Γ 0, vI bend, vI what] M (qctX9_votes M bend what) := by
  refine met_i (by decide) (Nat.le_of_ble_eq_true rfl) (fun x hx hr => ?_)
  show G Γ x 3 (QI Γ x (qctX9_votes M bend what)) M 0 [(0, aR Γ 0), (1, vI bend), (2, vI what)] []
  refine g_aload_n (n := 1) hx 0 (dq tX9_votes 0 rfl) rfl rfl ?_
  refine g_iload_n (n := 2) hx 1 (dq tX9_votes 1 rfl) rfl rfl ?_
  refine g_callVi (n := 5) (As := [vI bend]) (rest := []) hx (ctX9_isBend Γ M bend (by omega) (by omega)) mlX9_151 (obX9 (by decide)) (dq tX9_votes 2 rfl) rfl (Nat.le_of_ble_eq_true rfl) (Nat.le_of_ble_eq_true rfl) (Nat.le_of_ble_eq_true rfl) rfl (fun z_1 M_2 h_3 p_4 => ?_)
  obtain ⟨rfl, b_6⟩ := p_4
  refine g_if_eq (n := 8) (t := 17) hx (dq tX9_votes 3 rfl) (by decide) rfl h_3 (fun c_10 => ?_) (fun c_10 => ?_)
  · clear b_6
    refine g_iconst (n := 18) hx (dq tX9_votes 9 rfl) rfl ?_
    exact g_iret hx hr (dq tX9_votes 10 rfl) ⟨by decide, by decide⟩ rfl
  · have b_6 := b_6.resolve_left c_10
    obtain ⟨-, h_7, h_8, h_9⟩ := b_6
    refine g_iload_n (n := 9) hx 2 (dq tX9_votes 4 rfl) rfl rfl ?_
    refine g_if_lt (n := 12) (t := 17) hx (dq tX9_votes 5 rfl) (by decide) rfl (zrI hwhatl hwhatu (by decide) (by decide)) (fun c_11 => ?_) (fun c_11 => ?_)
    · refine g_iconst (n := 18) hx (dq tX9_votes 9 rfl) rfl ?_
      exact g_iret hx hr (dq tX9_votes 10 rfl) ⟨by decide, by decide⟩ rfl
    · refine g_iload_n (n := 13) hx 2 (dq tX9_votes 6 rfl) rfl rfl ?_
      refine g_iconst (n := 14) hx (dq tX9_votes 7 rfl) rfl ?_
      refine g_icmp_le (n := 17) (t := 19) hx (dq tX9_votes 8 rfl) (by decide) rfl (zrI hwhatl hwhatu (by decide) (by decide)) ⟨by decide, by decide⟩ (fun c_12 => ?_) (fun c_12 => ?_)
      · refine g_iload_n (n := 20) hx 2 (dq tX9_votes 11 rfl) rfl rfl ?_
        refine g_if_ne (n := 23) (t := 34) hx (dq tX9_votes 12 rfl) (by decide) rfl (zrI hwhatl hwhatu (by decide) (by decide)) (fun c_13 => ?_) (fun c_13 => ?_)
        · refine g_aload_n (n := 35) hx 0 (dq tX9_votes 18 rfl) rfl rfl ?_
          refine g_getR (n := 38) hx glX9_47 (sX9_5 (by decide)) (dq tX9_votes 19 rfl) rfl ?_
          refine g_iload_n (n := 39) hx 1 (dq tX9_votes 20 rfl) rfl rfl ?_
          refine g_callVi (n := 42) (As := [vI bend]) (rest := []) hx (ctX8_keeping Γ M 45 (by decide) bend (by omega) (by omega) gd0) mlX9_274 (obX8 (by decide)) (dq tX9_votes 21 rfl) rfl (Nat.le_of_ble_eq_true rfl) (Nat.le_of_ble_eq_true rfl) (Nat.le_of_ble_eq_true rfl) rfl (fun z_14 M_15 h_16 p_17 => ?_)
          obtain rfl := p_17
          exact g_iret hx hr (dq tX9_votes 22 rfl) h_16 rfl
        · refine g_aload_n (n := 24) hx 0 (dq tX9_votes 13 rfl) rfl rfl ?_
          refine g_getR (n := 27) hx glX9_47 (sX9_5 (by decide)) (dq tX9_votes 14 rfl) rfl ?_
          refine g_iload_n (n := 28) hx 1 (dq tX9_votes 15 rfl) rfl rfl ?_
          refine g_callVi (n := 31) (As := [vI bend]) (rest := []) hx (ctX8_tearing Γ M 45 (by decide) bend (by omega) (by omega) gd0) mlX9_266 (obX8 (by decide)) (dq tX9_votes 16 rfl) rfl (Nat.le_of_ble_eq_true rfl) (Nat.le_of_ble_eq_true rfl) (Nat.le_of_ble_eq_true rfl) rfl (fun z_19 M_20 h_21 p_22 => ?_)
          obtain rfl := p_22
          refine g_goto (n := 42) hx (dq tX9_votes 17 rfl) (by decide) ?_
          exact g_iret hx hr (dq tX9_votes 22 rfl) h_21 rfl
      · refine g_iconst (n := 18) hx (dq tX9_votes 9 rfl) rfl ?_
        exact g_iret hx hr (dq tX9_votes 10 rfl) ⟨by decide, by decide⟩ rfl

abbrev qctX9_elected (M : zM) (place : Int) (z : Int) (M' : zM) : Prop := (∀ u_ v_, (u_ < 0 + 3 ∨ 0 + 7 ≤ u_) ∧ (u_ ≠ 45 ∨ v_ ≠ 8) ∧ (u_ < 45 + 3 ∨ 45 + 11 ≤ u_) ∧ (u_ ≠ 45 + 11 ∨ v_ ≠ 1) ∧ (u_ ≠ 45 + 11 ∨ v_ ≠ 4) ∧ (u_ ≠ 45 + 11 ∨ v_ ≠ 11) ∧ (u_ < 45 + 12 ∨ 45 + 28 ≤ u_) ∧ (u_ < 73 ∨ 73 + 28 ≤ u_) → M' u_ v_ = M u_ v_) ∧ Gd M' 37 (45 + 1)
set_option maxHeartbeats 4000000 in
set_option maxRecDepth 100000 in
theorem ctX9_elected (Γ : Gam) (M : zM) (place : Int) (hplacel : (-2147483648) ≤ place) (hplaceu : place ≤ 2147483647) (gd0 : Gd M 37 (45 + 1)) : CtI Γ yX9_elected cX9_elected 2 (some .int) 5 129 [aR Γ 0, vI place] M (qctX9_elected M place) := by
  refine met_i (by decide) (Nat.le_of_ble_eq_true rfl) (fun x hx hr => ?_)
  show G Γ x 2 (QI Γ x (qctX9_elected M place)) M 0 [(0, aR Γ 0), (1, vI place)] []
  refine g_aload_n (n := 1) hx 0 (dq tX9_elected 0 rfl) rfl rfl ?_
  refine g_iload_n (n := 2) hx 1 (dq tX9_elected 1 rfl) rfl rfl ?_
  refine g_callVi (n := 5) (As := [vI place]) (rest := []) hx (ctX9_isLog Γ M place (by omega) (by omega)) mlX9_180 (obX9 (by decide)) (dq tX9_elected 2 rfl) rfl (Nat.le_of_ble_eq_true rfl) (Nat.le_of_ble_eq_true rfl) (Nat.le_of_ble_eq_true rfl) rfl (fun z_1 M_2 h_3 p_4 => ?_)
  obtain ⟨rfl, b_6⟩ := p_4
  refine g_if_ne (n := 8) (t := 10) hx (dq tX9_elected 3 rfl) (by decide) rfl h_3 (fun c_10 => ?_) (fun c_10 => ?_)
  · have b_6 := b_6.resolve_left c_10
    obtain ⟨-, h_7, h_8, h_9⟩ := b_6
    refine g_aload_n (n := 11) hx 0 (dq tX9_elected 6 rfl) rfl rfl ?_
    refine g_getR (n := 14) hx glX9_55 (sX9_6 (by decide)) (dq tX9_elected 7 rfl) rfl ?_
    refine g_aload_n (n := 15) hx 0 (dq tX9_elected 8 rfl) rfl rfl ?_
    refine g_getR (n := 18) hx glX9_47 (sX9_5 (by decide)) (dq tX9_elected 9 rfl) rfl ?_
    refine g_callVv (n := 21) (As := [aR Γ 45]) (rest := []) hx (ctX8_begin Γ M 73 (by decide) 45 (by decide) (by omega) gd0) mlX9_283 (obX8 (by decide)) (dq tX9_elected 10 rfl) rfl (Nat.le_of_ble_eq_true rfl) (Nat.le_of_ble_eq_true rfl) (Nat.le_of_ble_eq_true rfl) rfl (fun M_12 p_14 => ?_)
    obtain ⟨f_15, g_16, h_17⟩ := p_14
    refine g_aload_n (n := 22) hx 0 (dq tX9_elected 11 rfl) rfl rfl ?_
    refine g_getR (n := 25) hx glX9_55 (sX9_6 (by decide)) (dq tX9_elected 12 rfl) rfl ?_
    refine g_iconst (n := 26) hx (dq tX9_elected 13 rfl) rfl ?_
    have e_19 : M_12 37 1 = M 37 1 := (f_15 37 1 (by omega))
    have e_20 : M_12 37 3 = M 37 3 := (f_15 37 3 (by omega))
    refine g_callVv (n := 29) (As := [vI 0]) (rest := []) hx (ctX8_rise Γ M_12 73 (by decide) 0 (by decide) (by decide) h_17) mlX9_277 (obX8 (by decide)) (dq tX9_elected 14 rfl) rfl (Nat.le_of_ble_eq_true rfl) (Nat.le_of_ble_eq_true rfl) (Nat.le_of_ble_eq_true rfl) rfl (fun M_22 p_24 => ?_)
    obtain ⟨f_25, g_26⟩ := p_24
    have g_27 : Gd M_22 37 (45 + 1) := Gd.frame g_16 (fun c j hcj => f_25 c j (by omega))
    refine g_aload_n (n := 30) hx 0 (dq tX9_elected 15 rfl) rfl rfl ?_
    refine g_getR (n := 33) hx glX9_55 (sX9_6 (by decide)) (dq tX9_elected 16 rfl) rfl ?_
    refine g_getR (n := 36) hx glX9_100 (sX8_1 (by decide)) (dq tX9_elected 17 rfl) rfl ?_
    refine g_getR (n := 39) hx glX9_263 (sX6_12 (iX8_1 (by decide))) (dq tX9_elected 18 rfl) rfl ?_
    refine g_iload_n (n := 40) hx 1 (dq tX9_elected 19 rfl) rfl rfl ?_
    refine g_iald (n := 41) (q := place.toNat) hx (aX6_12 (b := 73 + 1) (iX8_1 (by decide))) (dq tX9_elected 20 rfl) rfl (by omega) (by omega) (by omega) rfl (fun h_29l h_29u => ?_)
    exact g_iret hx hr (dq tX9_elected 21 rfl) (zrI h_29l h_29u (by decide) (by decide)) ⟨(fun u_ v_ huv_ => ((f_25 u_ v_ (by omega)).trans (f_15 u_ v_ (by omega)))), g_27⟩
  · clear b_6
    refine g_iconst (n := 9) hx (dq tX9_elected 4 rfl) rfl ?_
    exact g_iret hx hr (dq tX9_elected 5 rfl) ⟨by decide, by decide⟩ ⟨(fun _ _ _ => rfl), gd0⟩

abbrev qctX9_wedding (M : zM) (village : Int) (z : Int) (M' : zM) : Prop := (∀ u_ v_, (u_ < 0 + 3 ∨ 0 + 7 ≤ u_) ∧ (u_ ≠ 45 ∨ v_ ≠ 8) ∧ (u_ < 45 + 3 ∨ 45 + 11 ≤ u_) ∧ (u_ ≠ 45 + 11 ∨ v_ ≠ 1) ∧ (u_ ≠ 45 + 11 ∨ v_ ≠ 4) ∧ (u_ ≠ 45 + 11 ∨ v_ ≠ 11) ∧ (u_ < 45 + 12 ∨ 45 + 28 ≤ u_) ∧ (u_ < 73 ∨ 73 + 28 ≤ u_) → M' u_ v_ = M u_ v_) ∧ Gd M' 37 (45 + 1)
set_option maxHeartbeats 4000000 in
set_option maxRecDepth 100000 in
theorem ctX9_wedding (Γ : Gam) (M : zM) (village : Int) (hvillagel : (-2147483648) ≤ village) (hvillageu : village ≤ 2147483647) (gd0 : Gd M 37 (45 + 1)) : CtI Γ yX9_wedding cX9_wedding 4 (some .int) 1 23 [aR Γ 0, vI village] M (qctX9_wedding M village) := by
  refine met_i (by decide) (Nat.le_of_ble_eq_true rfl) (fun x hx hr => ?_)
  show G Γ x 4 (QI Γ x (qctX9_wedding M village)) M 0 [(0, aR Γ 0), (1, vI village)] []
  refine g_aload_n (n := 1) hx 0 (dq tX9_wedding 0 rfl) rfl rfl ?_
  refine g_getR (n := 4) hx glX9_47 (sX9_5 (by decide)) (dq tX9_wedding 1 rfl) rfl ?_
  refine g_getR (n := 7) hx glX9_109 (sX8_2 (by decide)) (dq tX9_wedding 2 rfl) rfl ?_
  refine g_astore_n (n := 8) (lv' := [(2, aR Γ (45 + 11)), (0, aR Γ 0), (1, vI village)]) hx (dq tX9_wedding 3 rfl) (by decide) rfl rfl ?_
  refine g_aload_n (n := 9) hx 1 (dq tX9_wedding 4 rfl) rfl rfl ?_
  refine g_iload_n (n := 10) hx 2 (dq tX9_wedding 5 rfl) rfl rfl ?_
  refine g_callVi (n := 13) (As := [vI village]) (rest := []) hx (ctX9_isVillage Γ M village (by omega) (by omega)) mlX9_136 (obX9 (by decide)) (dq tX9_wedding 6 rfl) rfl (Nat.le_of_ble_eq_true rfl) (Nat.le_of_ble_eq_true rfl) (Nat.le_of_ble_eq_true rfl) rfl (fun z_1 M_2 h_3 p_4 => ?_)
  obtain ⟨rfl, b_6⟩ := p_4
  refine g_if_eq (n := 16) (t := 25) hx (dq tX9_wedding 7 rfl) (by decide) rfl h_3 (fun c_10 => ?_) (fun c_10 => ?_)
  · clear b_6
    refine g_bipush (n := 27) hx (dq tX9_wedding 12 rfl) rfl (by decide) ?_
    exact g_iret hx hr (dq tX9_wedding 13 rfl) ⟨by decide, by decide⟩ ⟨(fun _ _ _ => rfl), gd0⟩
  · have b_6 := b_6.resolve_left c_10
    obtain ⟨-, h_7, h_8, h_9⟩ := b_6
    refine g_aload_n (n := 17) hx 0 (dq tX9_wedding 8 rfl) rfl rfl ?_
    refine g_getI (n := 20) hx glX9_287 (sX0_4 (iX8_2 (by decide))) (dq tX9_wedding 9 rfl) rfl (fun h_11l h_11u => ?_)
    refine g_bipush (n := 22) hx (dq tX9_wedding 10 rfl) rfl (by decide) ?_
    refine g_icmp_lt (n := 25) (t := 28) hx (dq tX9_wedding 11 rfl) (by decide) rfl (zrI h_11l h_11u (by decide) (by decide)) ⟨by decide, by decide⟩ (fun c_12 => ?_) (fun c_12 => ?_)
    · refine g_aload_n (n := 29) hx 1 (dq tX9_wedding 14 rfl) rfl rfl ?_
      refine g_getR (n := 32) hx glX9_47 (sX9_5 (by decide)) (dq tX9_wedding 15 rfl) rfl ?_
      refine g_bipush (n := 34) hx (dq tX9_wedding 16 rfl) rfl (by decide) ?_
      refine g_iload_n (n := 35) hx 2 (dq tX9_wedding 17 rfl) rfl rfl ?_
      refine g_iadd (n := 36) hx (dq tX9_wedding 18 rfl) rfl ?_
      refine g_callVi (n := 39) (As := [vI (20 + village)]) (rest := []) hx (ctX8_logsAt Γ M 45 (by decide) (20 + village) (by omega) (by omega)) mlX9_160 (obX8 (by decide)) (dq tX9_wedding 19 rfl) rfl (Nat.le_of_ble_eq_true rfl) (Nat.le_of_ble_eq_true rfl) (Nat.le_of_ble_eq_true rfl) rfl (fun z_13 M_14 h_15 p_16 => ?_)
      obtain rfl := p_16
      refine g_istore_n (n := 40) (lv' := [(3, vI z_13), (2, aR Γ (45 + 11)), (0, aR Γ 0), (1, vI village)]) hx (dq tX9_wedding 20 rfl) (by decide) rfl rfl ?_
      refine g_aload_n (n := 41) hx 1 (dq tX9_wedding 21 rfl) rfl rfl ?_
      refine g_getR (n := 44) hx glX9_290 (sX0_5 (iX8_2 (by decide))) (dq tX9_wedding 22 rfl) rfl ?_
      refine g_aload_n (n := 45) hx 1 (dq tX9_wedding 23 rfl) rfl rfl ?_
      refine g_getI (n := 48) hx glX9_287 (sX0_4 (iX8_2 (by decide))) (dq tX9_wedding 24 rfl) rfl (fun h_18l h_18u => ?_)
      refine g_iload_n (n := 49) hx 0 (dq tX9_wedding 25 rfl) rfl rfl ?_
      refine g_iast (n := 50) (q := (M (45 + 11) 4).toNat) hx (aX0_5 (b := 45 + 11) (iX8_2 (by decide))) (dq tX9_wedding 26 rfl) rfl (by omega) (by omega) (by omega) rfl (by omega) (by omega) (fun M_19 m_20e m_20 => ?_)
      have g_21 : Gd M_19 37 (45 + 1) := Gd.frame gd0 (fun c j hcj => m_20 c j (by omega))
      refine g_aload_n (n := 51) hx 1 (dq tX9_wedding 27 rfl) rfl rfl ?_
      refine g_dup (n := 52) hx (dq tX9_wedding 28 rfl) rfl rfl ?_
      refine g_getI (n := 55) hx glX9_287 (sX0_4 (iX8_2 (by decide))) (dq tX9_wedding 29 rfl) rfl (fun h_22l h_22u => ?_)
      have e_23 : M_19 (45 + 11) 4 = M (45 + 11) 4 := (m_20 (45 + 11) 4 (by omega))
      refine g_iconst (n := 56) hx (dq tX9_wedding 30 rfl) rfl ?_
      refine g_iadd (n := 57) hx (dq tX9_wedding 31 rfl) rfl ?_
      refine g_putI (n := 60) hx plX9_287 (sX0_4 (iX8_2 (by decide))) (dq tX9_wedding 32 rfl) rfl (by omega) (by omega) (fun M_24 m_25e m_25 => ?_)
      have g_26 : Gd M_24 37 (45 + 1) := Gd.frame g_21 (fun c j hcj => m_25 c j (by omega))
      refine g_iload_n (n := 61) hx 0 (dq tX9_wedding 33 rfl) rfl rfl ?_
      exact g_iret hx hr (dq tX9_wedding 34 rfl) h_15 ⟨(fun u_ v_ huv_ => ((m_25 u_ v_ (by omega)).trans (m_20 u_ v_ (by omega)))), g_26⟩
    · refine g_bipush (n := 27) hx (dq tX9_wedding 12 rfl) rfl (by decide) ?_
      exact g_iret hx hr (dq tX9_wedding 13 rfl) ⟨by decide, by decide⟩ ⟨(fun _ _ _ => rfl), gd0⟩

abbrev qctX9_winter (M : zM) (n : Int) (z : Int) (M' : zM) : Prop := (∀ u_ v_, (u_ < 0 + 3 ∨ 0 + 7 ≤ u_) ∧ (u_ ≠ 45 ∨ v_ ≠ 8) ∧ (u_ < 45 + 3 ∨ 45 + 11 ≤ u_) ∧ (u_ ≠ 45 + 11 ∨ v_ ≠ 1) ∧ (u_ ≠ 45 + 11 ∨ v_ ≠ 4) ∧ (u_ ≠ 45 + 11 ∨ v_ ≠ 11) ∧ (u_ < 45 + 12 ∨ 45 + 28 ≤ u_) ∧ (u_ < 73 ∨ 73 + 28 ≤ u_) → M' u_ v_ = M u_ v_) ∧ Gd M' 37 (45 + 1)
set_option maxHeartbeats 4000000 in
set_option maxRecDepth 100000 in
theorem ctX9_winter (Γ : Gam) (M : zM) (n : Int) (hnl : (-2147483648) ≤ n) (hnu : n ≤ 2147483647) (gd0 : Gd M 37 (45 + 1)) : CtI Γ yX9_winter cX9_winter 2 (some .int) 1 23 [aR Γ 0, vI n] M (qctX9_winter M n) := by
  refine met_i (by decide) (Nat.le_of_ble_eq_true rfl) (fun x hx hr => ?_)
  show G Γ x 2 (QI Γ x (qctX9_winter M n)) M 0 [(0, aR Γ 0), (1, vI n)] []
  refine g_aload_n (n := 1) hx 0 (dq tX9_winter 0 rfl) rfl rfl ?_
  refine g_callVi (n := 4) (As := []) (rest := []) hx (ctX9_hasRiver Γ M ) mlX9_126 (obX9 (by decide)) (dq tX9_winter 1 rfl) rfl (Nat.le_of_ble_eq_true rfl) (Nat.le_of_ble_eq_true rfl) (Nat.le_of_ble_eq_true rfl) rfl (fun z_1 M_2 h_3 p_4 => ?_)
  obtain ⟨rfl, b_6⟩ := p_4
  refine g_if_eq (n := 7) (t := 18) hx (dq tX9_winter 2 rfl) (by decide) rfl h_3 (fun c_8 => ?_) (fun c_8 => ?_)
  · clear b_6
    refine g_bipush (n := 20) hx (dq tX9_winter 8 rfl) rfl (by decide) ?_
    exact g_iret hx hr (dq tX9_winter 9 rfl) ⟨by decide, by decide⟩ ⟨(fun _ _ _ => rfl), gd0⟩
  · have b_6 := b_6.resolve_left c_8
    obtain ⟨-, h_7⟩ := b_6
    refine g_iload_n (n := 8) hx 1 (dq tX9_winter 3 rfl) rfl rfl ?_
    refine g_if_lt (n := 11) (t := 18) hx (dq tX9_winter 4 rfl) (by decide) rfl (zrI hnl hnu (by decide) (by decide)) (fun c_9 => ?_) (fun c_9 => ?_)
    · refine g_bipush (n := 20) hx (dq tX9_winter 8 rfl) rfl (by decide) ?_
      exact g_iret hx hr (dq tX9_winter 9 rfl) ⟨by decide, by decide⟩ ⟨(fun _ _ _ => rfl), gd0⟩
    · refine g_iload_n (n := 12) hx 1 (dq tX9_winter 5 rfl) rfl rfl ?_
      refine g_ldcw (n := 15) (z := 99999) hx wd_926 (by decide) (dq tX9_winter 6 rfl) rfl ?_
      refine g_icmp_le (n := 18) (t := 21) hx (dq tX9_winter 7 rfl) (by decide) rfl (zrI hnl hnu (by decide) (by decide)) ⟨by decide, by decide⟩ (fun c_10 => ?_) (fun c_10 => ?_)
      · refine g_aload_n (n := 22) hx 0 (dq tX9_winter 10 rfl) rfl rfl ?_
        refine g_getR (n := 25) hx glX9_47 (sX9_5 (by decide)) (dq tX9_winter 11 rfl) rfl ?_
        refine g_getR (n := 28) hx glX9_109 (sX8_2 (by decide)) (dq tX9_winter 12 rfl) rfl ?_
        refine g_iload_n (n := 29) hx 1 (dq tX9_winter 13 rfl) rfl rfl ?_
        refine g_callVi (n := 32) (As := [vI n]) (rest := []) hx (ctX0_writeOff Γ M (45 + 11) (iX8_2 (by decide)) n (by omega) (by omega)) mlX9_294 (obX0 (iX8_2 (by decide))) (dq tX9_winter 14 rfl) rfl (Nat.le_of_ble_eq_true rfl) (Nat.le_of_ble_eq_true rfl) (Nat.le_of_ble_eq_true rfl) rfl (fun z_11 M_12 h_13 p_14 => ?_)
        have f_15 := p_14
        have g_16 : Gd M_12 37 (45 + 1) := Gd.frame gd0 (fun c j hcj => f_15 c j (by omega))
        exact g_iret hx hr (dq tX9_winter 15 rfl) h_13 ⟨(fun u_ v_ huv_ => (f_15 u_ v_ (by omega))), g_16⟩
      · refine g_bipush (n := 20) hx (dq tX9_winter 8 rfl) rfl (by decide) ?_
        exact g_iret hx hr (dq tX9_winter 9 rfl) ⟨by decide, by decide⟩ ⟨(fun _ _ _ => rfl), gd0⟩

abbrev qctX9_floats (M : zM) (n : Int) (what : Int) (z : Int) (M' : zM) : Prop := (∀ u_ v_, (u_ < 0 + 3 ∨ 0 + 7 ≤ u_) ∧ (u_ ≠ 45 ∨ v_ ≠ 8) ∧ (u_ < 45 + 3 ∨ 45 + 11 ≤ u_) ∧ (u_ ≠ 45 + 11 ∨ v_ ≠ 1) ∧ (u_ ≠ 45 + 11 ∨ v_ ≠ 4) ∧ (u_ ≠ 45 + 11 ∨ v_ ≠ 11) ∧ (u_ < 45 + 12 ∨ 45 + 28 ≤ u_) ∧ (u_ < 73 ∨ 73 + 28 ≤ u_) → M' u_ v_ = M u_ v_) ∧ Gd M' 37 (45 + 1)
set_option maxHeartbeats 4000000 in
set_option maxRecDepth 100000 in
theorem ctX9_floats (Γ : Gam) (M : zM) (n : Int) (hnl : (-2147483648) ≤ n) (hnu : n ≤ 2147483647) (what : Int) (hwhatl : (-2147483648) ≤ what) (hwhatu : what ≤ 2147483647) (gd0 : Gd M 37 (45 + 1)) : CtI Γ yX9_floats cX9_floats 4 (some .int) 6 151 [aR Γ 0, vI n, vI what] M (qctX9_floats M n what) := by
  refine met_i (by decide) (Nat.le_of_ble_eq_true rfl) (fun x hx hr => ?_)
  show G Γ x 4 (QI Γ x (qctX9_floats M n what)) M 0 [(0, aR Γ 0), (1, vI n), (2, vI what)] []
  refine g_aload_n (n := 1) hx 0 (dq tX9_floats 0 rfl) rfl rfl ?_
  refine g_callVi (n := 4) (As := []) (rest := []) hx (ctX9_hasRiver Γ M ) mlX9_126 (obX9 (by decide)) (dq tX9_floats 1 rfl) rfl (Nat.le_of_ble_eq_true rfl) (Nat.le_of_ble_eq_true rfl) (Nat.le_of_ble_eq_true rfl) rfl (fun z_1 M_2 h_3 p_4 => ?_)
  obtain ⟨rfl, b_6⟩ := p_4
  refine g_if_eq (n := 7) (t := 27) hx (dq tX9_floats 2 rfl) (by decide) rfl h_3 (fun c_8 => ?_) (fun c_8 => ?_)
  · clear b_6
    refine g_iconst (n := 28) hx (dq tX9_floats 13 rfl) rfl ?_
    exact g_iret hx hr (dq tX9_floats 14 rfl) ⟨by decide, by decide⟩ ⟨(fun _ _ _ => rfl), gd0⟩
  · have b_6 := b_6.resolve_left c_8
    obtain ⟨-, h_7⟩ := b_6
    refine g_iload_n (n := 8) hx 1 (dq tX9_floats 3 rfl) rfl rfl ?_
    refine g_if_lt (n := 11) (t := 27) hx (dq tX9_floats 4 rfl) (by decide) rfl (zrI hnl hnu (by decide) (by decide)) (fun c_9 => ?_) (fun c_9 => ?_)
    · refine g_iconst (n := 28) hx (dq tX9_floats 13 rfl) rfl ?_
      exact g_iret hx hr (dq tX9_floats 14 rfl) ⟨by decide, by decide⟩ ⟨(fun _ _ _ => rfl), gd0⟩
    · refine g_iload_n (n := 12) hx 1 (dq tX9_floats 5 rfl) rfl rfl ?_
      refine g_bipush (n := 14) hx (dq tX9_floats 6 rfl) rfl (by decide) ?_
      refine g_icmp_gt (n := 17) (t := 27) hx (dq tX9_floats 7 rfl) (by decide) rfl (zrI hnl hnu (by decide) (by decide)) ⟨by decide, by decide⟩ (fun c_10 => ?_) (fun c_10 => ?_)
      · refine g_iconst (n := 28) hx (dq tX9_floats 13 rfl) rfl ?_
        exact g_iret hx hr (dq tX9_floats 14 rfl) ⟨by decide, by decide⟩ ⟨(fun _ _ _ => rfl), gd0⟩
      · refine g_iload_n (n := 18) hx 2 (dq tX9_floats 8 rfl) rfl rfl ?_
        refine g_if_lt (n := 21) (t := 27) hx (dq tX9_floats 9 rfl) (by decide) rfl (zrI hwhatl hwhatu (by decide) (by decide)) (fun c_11 => ?_) (fun c_11 => ?_)
        · refine g_iconst (n := 28) hx (dq tX9_floats 13 rfl) rfl ?_
          exact g_iret hx hr (dq tX9_floats 14 rfl) ⟨by decide, by decide⟩ ⟨(fun _ _ _ => rfl), gd0⟩
        · refine g_iload_n (n := 22) hx 2 (dq tX9_floats 10 rfl) rfl rfl ?_
          refine g_bipush (n := 24) hx (dq tX9_floats 11 rfl) rfl (by decide) ?_
          refine g_icmp_lt (n := 27) (t := 29) hx (dq tX9_floats 12 rfl) (by decide) rfl (zrI hwhatl hwhatu (by decide) (by decide)) ⟨by decide, by decide⟩ (fun c_12 => ?_) (fun c_12 => ?_)
          · refine g_aload_n (n := 30) hx 0 (dq tX9_floats 15 rfl) rfl rfl ?_
            refine g_getR (n := 33) hx glX9_55 (sX9_6 (by decide)) (dq tX9_floats 16 rfl) rfl ?_
            refine g_aload_n (n := 34) hx 0 (dq tX9_floats 17 rfl) rfl rfl ?_
            refine g_getR (n := 37) hx glX9_47 (sX9_5 (by decide)) (dq tX9_floats 18 rfl) rfl ?_
            refine g_callVv (n := 40) (As := [aR Γ 45]) (rest := []) hx (ctX8_begin Γ M 73 (by decide) 45 (by decide) (by omega) gd0) mlX9_283 (obX8 (by decide)) (dq tX9_floats 19 rfl) rfl (Nat.le_of_ble_eq_true rfl) (Nat.le_of_ble_eq_true rfl) (Nat.le_of_ble_eq_true rfl) rfl (fun M_14 p_16 => ?_)
            obtain ⟨f_17, g_18, h_19⟩ := p_16
            refine g_iconst (n := 41) hx (dq tX9_floats 20 rfl) rfl ?_
            refine g_istore_n (n := 42) (lv' := [(3, vI 0), (0, aR Γ 0), (1, vI n), (2, vI what)]) hx (dq tX9_floats 21 rfl) (by decide) rfl rfl ?_
            have L_23 : ∀ (n_ : Nat) (i_21 : Int) (M_22 : zM), (0 ≤ i_21) → (i_21 ≤ 60) → (∀ u_ v_, (u_ ≠ 73 ∨ v_ ≠ 8) ∧ (u_ < 73 + 3 ∨ 73 + 11 ≤ u_) ∧ (u_ ≠ 73 + 11 ∨ v_ ≠ 1) ∧ (u_ < 73 + 12 ∨ 73 + 28 ≤ u_) ∧ (u_ ≠ 73 + 1 ∨ v_ ≠ 0) → M_22 u_ v_ = M_14 u_ v_) → (Gd M_22 37 (45 + 1)) → (Gd M_22 37 (73 + 1)) → ((60 - i_21).toNat = n_) → G Γ x 4 (QI Γ x (qctX9_floats M n what)) M_22 42 [(3, vI i_21), (0, aR Γ 0), (1, vI n), (2, vI what)] [] := by
              intro n_
              induction n_ using Nat.strongRecOn with
              | _ n_ ih_24 =>
                intro i_21 M_22 h_29 h_30 f_25 g_26 g_27 hm_28
                refine g_iload_n (n := 43) hx 0 (dq tX9_floats 22 rfl) rfl rfl ?_
                refine g_iload_n (n := 44) hx 2 (dq tX9_floats 23 rfl) rfl rfl ?_
                refine g_icmp_ge (n := 47) (t := 60) hx (dq tX9_floats 24 rfl) (by decide) rfl ⟨by omega, by omega⟩ (zrI hnl hnu (by decide) (by decide)) (fun c_31 => ?_) (fun c_31 => ?_)
                · refine g_aload_n (n := 61) hx 1 (dq tX9_floats 30 rfl) rfl rfl ?_
                  refine g_getR (n := 64) hx glX9_55 (sX9_6 (by decide)) (dq tX9_floats 31 rfl) rfl ?_
                  refine g_getR (n := 67) hx glX9_307 (sX8_3 (by decide)) (dq tX9_floats 32 rfl) rfl ?_
                  refine g_iload_n (n := 68) hx 3 (dq tX9_floats 33 rfl) rfl rfl ?_
                  refine g_iald (n := 69) (q := what.toNat) hx (aX8_3 (b := 73) (by decide)) (dq tX9_floats 34 rfl) rfl (by omega) (by omega) (by omega) rfl (fun h_32l h_32u => ?_)
                  exact g_iret hx hr (dq tX9_floats 35 rfl) (zrI h_32l h_32u (by decide) (by decide)) ⟨(fun u_ v_ huv_ => ((f_25 u_ v_ (by omega)).trans (f_17 u_ v_ (by omega)))), g_26⟩
                · refine g_aload_n (n := 48) hx 1 (dq tX9_floats 25 rfl) rfl rfl ?_
                  refine g_getR (n := 51) hx glX9_55 (sX9_6 (by decide)) (dq tX9_floats 26 rfl) rfl ?_
                  have e_33 : M_22 37 1 = M 37 1 := ((f_25 37 1 (by omega))).trans (f_17 37 1 (by omega))
                  have e_34 : M_22 37 3 = M 37 3 := ((f_25 37 3 (by omega))).trans (f_17 37 3 (by omega))
                  refine g_callVv (n := 54) (As := []) (rest := []) hx (ctX8_passDay Γ M_22 73 (by decide) g_27) mlX9_300 (obX8 (by decide)) (dq tX9_floats 27 rfl) rfl (Nat.le_of_ble_eq_true rfl) (Nat.le_of_ble_eq_true rfl) (Nat.le_of_ble_eq_true rfl) rfl (fun M_36 p_38 => ?_)
                  obtain ⟨f_39, g_40⟩ := p_38
                  have g_41 : Gd M_36 37 (45 + 1) := Gd.frame g_26 (fun c j hcj => f_39 c j (by omega))
                  refine g_iinc (n := 57) (lv' := [(3, vI (i_21 + 1)), (0, aR Γ 0), (1, vI n), (2, vI what)]) hx 0 (dq tX9_floats 28 rfl) rfl (by decide) rfl rfl ?_
                  refine g_goto (n := 42) hx (dq tX9_floats 29 rfl) (by decide) ?_
                  exact ih_24 _ (by omega) (i_21 + 1) M_36 (by omega) (by omega) (fun u_ v_ huv_ => ((f_39 u_ v_ (by omega)).trans (f_25 u_ v_ (by omega)))) g_41 g_40 rfl
            exact L_23 _ 0 M_14 (by omega) (by omega) (fun _ _ _ => rfl) g_18 h_19 rfl
          · refine g_iconst (n := 28) hx (dq tX9_floats 13 rfl) rfl ?_
            exact g_iret hx hr (dq tX9_floats 14 rfl) ⟨by decide, by decide⟩ ⟨(fun _ _ _ => rfl), gd0⟩
