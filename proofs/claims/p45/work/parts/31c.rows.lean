abbrev qctX10_bendOf (M : zM) (l : Int) (z : Int) (M' : zM) : Prop := M = M' ∧ 0 ≤ z ∧ z ≤ 9 ∧ (20 ≤ M (229 + 12) l.toNat → M (229 + 12) l.toNat ≤ 25 → z ≤ 8)
set_option maxHeartbeats 4000000 in
set_option maxRecDepth 100000 in
theorem ctX10_bendOf (Γ : Gam) (M : zM) (l : Int) (hll : 0 ≤ l) (hlu : l ≤ 11) (pre0 : l < M (229 + 1) 3) (gm : Gm M) : CtI Γ yX10_bendOf cX10_bendOf 2 (some .int) 2 46 [aR Γ 229, vI l] M (qctX10_bendOf M l) := by
  refine met_i (by decide) (Nat.le_of_ble_eq_true rfl) (fun x hx hr => ?_)
  show G Γ x 2 (QI Γ x (qctX10_bendOf M l)) M 0 [(0, aR Γ 229), (1, vI l)] []
  refine g_aload_n (n := 1) hx 0 (dq tX10_bendOf 0 rfl) rfl rfl ?_
  refine g_iload_n (n := 2) hx 1 (dq tX10_bendOf 1 rfl) rfl rfl ?_
  refine g_callVi (n := 5) (As := [vI l]) (rest := []) hx (ctX10_isInWater Γ M l (by omega) (by omega)) mlX10_199 (obX10 (by decide)) (dq tX10_bendOf 2 rfl) rfl (Nat.le_of_ble_eq_true rfl) (Nat.le_of_ble_eq_true rfl) (Nat.le_of_ble_eq_true rfl) rfl (fun z_1 M_2 h_3 p_4 => ?_)
  obtain ⟨rfl, b_6, h_7⟩ := p_4
  refine g_if_eq (n := 8) (t := 17) hx (dq tX10_bendOf 3 rfl) (by decide) rfl h_3 (fun c_9 => ?_) (fun c_9 => ?_)
  · clear b_6
    refine g_aload_n (n := 18) hx 0 (dq tX10_bendOf 9 rfl) rfl rfl ?_
    refine g_iload_n (n := 19) hx 1 (dq tX10_bendOf 10 rfl) rfl rfl ?_
    refine g_callVi (n := 22) (As := [vI l]) (rest := []) hx (ctX10_isAshore Γ M l (by omega) (by omega)) mlX10_203 (obX10 (by decide)) (dq tX10_bendOf 11 rfl) rfl (Nat.le_of_ble_eq_true rfl) (Nat.le_of_ble_eq_true rfl) (Nat.le_of_ble_eq_true rfl) rfl (fun z_10 M_11 h_12 p_13 => ?_)
    obtain ⟨rfl, b_15, h_16⟩ := p_13
    refine g_if_eq (n := 25) (t := 42) hx (dq tX10_bendOf 12 rfl) (by decide) rfl h_12 (fun c_19 => ?_) (fun c_19 => ?_)
    · clear b_15
      refine g_aload_n (n := 43) hx 0 (dq tX10_bendOf 23 rfl) rfl rfl ?_
      refine g_getR (n := 46) hx glX10_9 (sX10_1 (by decide)) (dq tX10_bendOf 24 rfl) rfl ?_
      refine g_iconst (n := 47) hx (dq tX10_bendOf 25 rfl) rfl ?_
      refine g_ialdX (n := 48) (q := 0) hx (aX10_1 (b := 229) (by decide)) (dq tX10_bendOf 26 rfl) rfl (by decide) (by decide) (by decide) rfl (fun h_20l h_20u => ?_)
      have h_20l : 0 ≤ M (229 + 1) 0 := h_20l
      have h_20u : M (229 + 1) 0 ≤ 9 := h_20u
      exact g_iret hx hr (dq tX10_bendOf 27 rfl) (zrI h_20l h_20u (by decide) (by decide)) ⟨rfl, (by omega), (by omega), (by omega)⟩
    · have b_15 := b_15.resolve_left c_19
      obtain ⟨-, h_17, h_18⟩ := b_15
      refine g_aload_n (n := 26) hx 0 (dq tX10_bendOf 13 rfl) rfl rfl ?_
      refine g_getR (n := 29) hx glX10_22 (sX10_5 (by decide)) (dq tX10_bendOf 14 rfl) rfl ?_
      refine g_aload_n (n := 30) hx 0 (dq tX10_bendOf 15 rfl) rfl rfl ?_
      refine g_getR (n := 33) hx glX10_43 (sX10_12 (by decide)) (dq tX10_bendOf 16 rfl) rfl ?_
      refine g_iload_n (n := 34) hx 1 (dq tX10_bendOf 17 rfl) rfl rfl ?_
      refine g_iald (n := 35) (q := l.toNat) hx (aX10_12 (b := 229) (by decide)) (dq tX10_bendOf 18 rfl) rfl (by omega) (by omega) (by omega) rfl (fun h_21l h_21u => ?_)
      refine g_iv (fun h_23 => ?_)
      have h_23v : (0 : Int) ≤ M (229 + 1) 1 ∧ M (229 + 1) 1 ≤ 6 := h_23 230 1
      have h_23l : (0 : Int) ≤ M (229 + 1) 3 ∧ M (229 + 1) 3 ≤ 12 := h_23 230 3
      clear h_23
      have h_22 := gm.2.2.1 l.toNat (by omega)
      have h_22s := PlOk.shore h_22
      have h_22w := PlOk.water h_22
      have h_22r := PlOk.rg h_22 (by omega)
      clear h_22
      refine g_bipush (n := 37) hx (dq tX10_bendOf 19 rfl) rfl (by decide) ?_
      refine g_isub (n := 38) hx (dq tX10_bendOf 20 rfl) rfl ?_
      refine g_iald (n := 39) (q := ((M (229 + 12) l.toNat) - 20).toNat) hx (aX10_5 (b := 229) (by decide)) (dq tX10_bendOf 21 rfl) rfl (by omega) (by omega) (by omega) rfl (fun h_24l h_24u => ?_)
      refine g_iv (fun h_26 => ?_)
      have h_26v : (0 : Int) ≤ M (229 + 1) 1 ∧ M (229 + 1) 1 ≤ 6 := h_26 230 1
      have h_26l : (0 : Int) ≤ M (229 + 1) 3 ∧ M (229 + 1) 3 ≤ 12 := h_26 230 3
      clear h_26
      have h_25 := gm.1 (((M (229 + 12) l.toNat) - 20).toNat) (by omega)
      refine g_goto (n := 48) hx (dq tX10_bendOf 22 rfl) (by decide) ?_
      exact g_iret hx hr (dq tX10_bendOf 27 rfl) (zrI h_24l h_24u (by decide) (by decide)) ⟨rfl, (by omega), (by omega), (by omega)⟩
  · have b_6 := b_6.resolve_left c_9
    obtain ⟨-, h_8⟩ := b_6
    refine g_aload_n (n := 9) hx 0 (dq tX10_bendOf 4 rfl) rfl rfl ?_
    refine g_getR (n := 12) hx glX10_43 (sX10_12 (by decide)) (dq tX10_bendOf 5 rfl) rfl ?_
    refine g_iload_n (n := 13) hx 1 (dq tX10_bendOf 6 rfl) rfl rfl ?_
    refine g_iald (n := 14) (q := l.toNat) hx (aX10_12 (b := 229) (by decide)) (dq tX10_bendOf 7 rfl) rfl (by omega) (by omega) (by omega) rfl (fun h_27l h_27u => ?_)
    refine g_iv (fun h_29 => ?_)
    have h_29v : (0 : Int) ≤ M (229 + 1) 1 ∧ M (229 + 1) 1 ≤ 6 := h_29 230 1
    have h_29l : (0 : Int) ≤ M (229 + 1) 3 ∧ M (229 + 1) 3 ≤ 12 := h_29 230 3
    clear h_29
    have h_28 := gm.2.2.1 l.toNat (by omega)
    have h_28s := PlOk.shore h_28
    have h_28w := PlOk.water h_28
    have h_28r := PlOk.rg h_28 (by omega)
    clear h_28
    refine g_goto (n := 48) hx (dq tX10_bendOf 8 rfl) (by decide) ?_
    exact g_iret hx hr (dq tX10_bendOf 27 rfl) (zrI h_27l h_27u (by decide) (by decide)) ⟨rfl, (by omega), (by omega), (by omega)⟩

abbrev qctX10_priceOf (M : zM) (l : Int) (z : Int) (M' : zM) : Prop := M = M'
set_option maxHeartbeats 4000000 in
set_option maxRecDepth 100000 in
theorem ctX10_priceOf (Γ : Gam) (M : zM) (l : Int) (hll : 0 ≤ l) (hlu : l ≤ 11) (pre0 : l < M (229 + 1) 3) (gm : Gm M) : CtI Γ yX10_priceOf cX10_priceOf 3 (some .int) 3 67 [aR Γ 229, vI l] M (qctX10_priceOf M l) := by
  refine met_i (by decide) (Nat.le_of_ble_eq_true rfl) (fun x hx hr => ?_)
  show G Γ x 3 (QI Γ x (qctX10_priceOf M l)) M 0 [(0, aR Γ 229), (1, vI l)] []
  refine g_aload_n (n := 1) hx 0 (dq tX10_priceOf 0 rfl) rfl rfl ?_
  refine g_getR (n := 4) hx glX10_43 (sX10_12 (by decide)) (dq tX10_priceOf 1 rfl) rfl ?_
  refine g_iload_n (n := 5) hx 1 (dq tX10_priceOf 2 rfl) rfl rfl ?_
  refine g_iald (n := 6) (q := l.toNat) hx (aX10_12 (b := 229) (by decide)) (dq tX10_priceOf 3 rfl) rfl (by omega) (by omega) (by omega) rfl (fun h_1l h_1u => ?_)
  refine g_bipush (n := 8) hx (dq tX10_priceOf 4 rfl) rfl (by decide) ?_
  refine g_icmp_ne (n := 11) (t := 13) hx (dq tX10_priceOf 5 rfl) (by decide) rfl (zrI h_1l h_1u (by decide) (by decide)) ⟨by decide, by decide⟩ (fun c_2 => ?_) (fun c_2 => ?_)
  · refine g_aload_n (n := 14) hx 0 (dq tX10_priceOf 8 rfl) rfl rfl ?_
    refine g_getR (n := 17) hx glX10_37 (sX10_10 (by decide)) (dq tX10_priceOf 9 rfl) rfl ?_
    refine g_iload_n (n := 18) hx 1 (dq tX10_priceOf 10 rfl) rfl rfl ?_
    refine g_iald (n := 19) (q := l.toNat) hx (aX10_10 (b := 229) (by decide)) (dq tX10_priceOf 11 rfl) rfl (by omega) (by omega) (by omega) rfl (fun h_3l h_3u => ?_)
    refine g_aload_n (n := 20) hx 0 (dq tX10_priceOf 12 rfl) rfl rfl ?_
    refine g_getR (n := 23) hx glX10_19 (sX10_4 (by decide)) (dq tX10_priceOf 13 rfl) rfl ?_
    refine g_aload_n (n := 24) hx 0 (dq tX10_priceOf 14 rfl) rfl rfl ?_
    refine g_getR (n := 27) hx glX10_34 (sX10_9 (by decide)) (dq tX10_priceOf 15 rfl) rfl ?_
    refine g_iload_n (n := 28) hx 1 (dq tX10_priceOf 16 rfl) rfl rfl ?_
    refine g_iald (n := 29) (q := l.toNat) hx (aX10_9 (b := 229) (by decide)) (dq tX10_priceOf 17 rfl) rfl (by omega) (by omega) (by omega) rfl (fun h_4l h_4u => ?_)
    refine g_iv (fun h_6 => ?_)
    have h_6v : (0 : Int) ≤ M (229 + 1) 1 ∧ M (229 + 1) 1 ≤ 6 := h_6 230 1
    have h_6l : (0 : Int) ≤ M (229 + 1) 3 ∧ M (229 + 1) 3 ≤ 12 := h_6 230 3
    clear h_6
    have h_5 := gm.2.1 l.toNat (by omega)
    refine g_iald (n := 30) (q := (M (229 + 9) l.toNat).toNat) hx (aX10_4 (b := 229) (by decide)) (dq tX10_priceOf 18 rfl) rfl (by omega) (by omega) (by omega) rfl (fun h_7l h_7u => ?_)
    refine g_imul (n := 31) hx (dq tX10_priceOf 19 rfl) rfl ?_
    refine g_aload_n (n := 32) hx 0 (dq tX10_priceOf 20 rfl) rfl rfl ?_
    refine g_getR (n := 35) hx glX10_9 (sX10_1 (by decide)) (dq tX10_priceOf 21 rfl) rfl ?_
    refine g_iconst (n := 36) hx (dq tX10_priceOf 22 rfl) rfl ?_
    refine g_ialdX (n := 37) (q := 4) hx (aX10_1 (b := 229) (by decide)) (dq tX10_priceOf 23 rfl) rfl (by decide) (by decide) (by decide) rfl (fun h_8l h_8u => ?_)
    have h_8l : (-2147483648) ≤ M (229 + 1) 4 := h_8l
    have h_8u : M (229 + 1) 4 ≤ 2147483647 := h_8u
    refine g_aload_n (n := 38) hx 0 (dq tX10_priceOf 24 rfl) rfl rfl ?_
    refine g_getR (n := 41) hx glX10_9 (sX10_1 (by decide)) (dq tX10_priceOf 25 rfl) rfl ?_
    refine g_iconst (n := 42) hx (dq tX10_priceOf 26 rfl) rfl ?_
    refine g_ialdX (n := 43) (q := 0) hx (aX10_1 (b := 229) (by decide)) (dq tX10_priceOf 27 rfl) rfl (by decide) (by decide) (by decide) rfl (fun h_9l h_9u => ?_)
    have h_9l : 0 ≤ M (229 + 1) 0 := h_9l
    have h_9u : M (229 + 1) 0 ≤ 9 := h_9u
    refine g_aload_n (n := 44) hx 0 (dq tX10_priceOf 28 rfl) rfl rfl ?_
    refine g_iload_n (n := 45) hx 1 (dq tX10_priceOf 29 rfl) rfl rfl ?_
    refine g_callVi (n := 48) (As := [vI l]) (rest := [vI (M (229 + 1) 0), vI (M (229 + 1) 4), vI ((M (229 + 10) l.toNat) * (M (229 + 4) ((M (229 + 9) l.toNat).toNat)))]) hx (ctX10_bendOf Γ M l (by omega) (by omega) (by omega) gm) mlX10_213 (obX10 (by decide)) (dq tX10_priceOf 30 rfl) rfl (Nat.le_of_ble_eq_true rfl) (Nat.le_of_ble_eq_true rfl) (Nat.le_of_ble_eq_true rfl) rfl (fun z_10 M_11 h_12 p_13 => ?_)
    obtain ⟨rfl, h_15, h_16, h_17⟩ := p_13
    refine g_isub (n := 49) hx (dq tX10_priceOf 31 rfl) rfl ?_
    refine g_imul (n := 50) hx (dq tX10_priceOf 32 rfl) rfl ?_
    refine g_isub (n := 51) hx (dq tX10_priceOf 33 rfl) rfl ?_
    refine g_any (fun z_18 h_19 => ?_)
    refine g_istore_n (n := 52) (lv' := [(2, vI z_18), (0, aR Γ 229), (1, vI l)]) hx (dq tX10_priceOf 34 rfl) (by decide) rfl rfl ?_
    refine g_iload_n (n := 53) hx 0 (dq tX10_priceOf 35 rfl) rfl rfl ?_
    refine g_if_le (n := 56) (t := 60) hx (dq tX10_priceOf 36 rfl) (by decide) rfl h_19 (fun c_20 => ?_) (fun c_20 => ?_)
    · refine g_iconst (n := 61) hx (dq tX10_priceOf 39 rfl) rfl ?_
      exact g_iret hx hr (dq tX10_priceOf 40 rfl) ⟨by decide, by decide⟩ rfl
    · refine g_iload_n (n := 57) hx 0 (dq tX10_priceOf 37 rfl) rfl rfl ?_
      refine g_goto (n := 61) hx (dq tX10_priceOf 38 rfl) (by decide) ?_
      exact g_iret hx hr (dq tX10_priceOf 40 rfl) h_19 rfl
  · refine g_iconst (n := 12) hx (dq tX10_priceOf 6 rfl) rfl ?_
    exact g_iret hx hr (dq tX10_priceOf 7 rfl) ⟨by decide, by decide⟩ rfl

abbrev qctX10_roomAhead (M : zM) (l : Int) (z : Int) (M' : zM) : Prop := M = M'
set_option maxHeartbeats 4000000 in
set_option maxRecDepth 100000 in
theorem ctX10_roomAhead (Γ : Gam) (M : zM) (l : Int) (hll : 0 ≤ l) (hlu : l ≤ 11) (pre0 : l < M (229 + 1) 3) (gm : Gm M) : CtI Γ yX10_roomAhead cX10_roomAhead 2 (some .int) 2 46 [aR Γ 229, vI l] M (qctX10_roomAhead M l) := by
  refine met_i (by decide) (Nat.le_of_ble_eq_true rfl) (fun x hx hr => ?_)
  show G Γ x 2 (QI Γ x (qctX10_roomAhead M l)) M 0 [(0, aR Γ 229), (1, vI l)] []
  refine g_aload_n (n := 1) hx 0 (dq tX10_roomAhead 0 rfl) rfl rfl ?_
  refine g_iload_n (n := 2) hx 1 (dq tX10_roomAhead 1 rfl) rfl rfl ?_
  refine g_callVi (n := 5) (As := [vI l]) (rest := []) hx (ctX10_isInWater Γ M l (by omega) (by omega)) mlX10_199 (obX10 (by decide)) (dq tX10_roomAhead 2 rfl) rfl (Nat.le_of_ble_eq_true rfl) (Nat.le_of_ble_eq_true rfl) (Nat.le_of_ble_eq_true rfl) rfl (fun z_1 M_2 h_3 p_4 => ?_)
  obtain ⟨rfl, b_6, h_7⟩ := p_4
  refine g_if_ne (n := 8) (t := 10) hx (dq tX10_roomAhead 3 rfl) (by decide) rfl h_3 (fun c_9 => ?_) (fun c_9 => ?_)
  · have b_6 := b_6.resolve_left c_9
    obtain ⟨-, h_8⟩ := b_6
    refine g_aload_n (n := 11) hx 0 (dq tX10_roomAhead 6 rfl) rfl rfl ?_
    refine g_aload_n (n := 12) hx 0 (dq tX10_roomAhead 7 rfl) rfl rfl ?_
    refine g_getR (n := 15) hx glX10_43 (sX10_12 (by decide)) (dq tX10_roomAhead 8 rfl) rfl ?_
    refine g_iload_n (n := 16) hx 1 (dq tX10_roomAhead 9 rfl) rfl rfl ?_
    refine g_iald (n := 17) (q := l.toNat) hx (aX10_12 (b := 229) (by decide)) (dq tX10_roomAhead 10 rfl) rfl (by omega) (by omega) (by omega) rfl (fun h_10l h_10u => ?_)
    refine g_iv (fun h_12 => ?_)
    have h_12v : (0 : Int) ≤ M (229 + 1) 1 ∧ M (229 + 1) 1 ≤ 6 := h_12 230 1
    have h_12l : (0 : Int) ≤ M (229 + 1) 3 ∧ M (229 + 1) 3 ≤ 12 := h_12 230 3
    clear h_12
    have h_11 := gm.2.2.1 l.toNat (by omega)
    have h_11s := PlOk.shore h_11
    have h_11w := PlOk.water h_11
    have h_11r := PlOk.rg h_11 (by omega)
    clear h_11
    refine g_iconst (n := 18) hx (dq tX10_roomAhead 11 rfl) rfl ?_
    refine g_iadd (n := 19) hx (dq tX10_roomAhead 12 rfl) rfl ?_
    refine g_callVi (n := 22) (As := [vI ((M (229 + 12) l.toNat) + 1)]) (rest := []) hx (ctX10_isBend Γ M ((M (229 + 12) l.toNat) + 1) (by omega) (by omega)) mlX10_467 (obX10 (by decide)) (dq tX10_roomAhead 13 rfl) rfl (Nat.le_of_ble_eq_true rfl) (Nat.le_of_ble_eq_true rfl) (Nat.le_of_ble_eq_true rfl) rfl (fun z_13 M_14 h_15 p_16 => ?_)
    obtain ⟨rfl, b_18⟩ := p_16
    refine g_if_eq (n := 25) (t := 40) hx (dq tX10_roomAhead 14 rfl) (by decide) rfl h_15 (fun c_22 => ?_) (fun c_22 => ?_)
    · clear b_18
      refine g_bipush (n := 42) hx (dq tX10_roomAhead 24 rfl) rfl (by decide) ?_
      exact g_iret hx hr (dq tX10_roomAhead 25 rfl) ⟨by decide, by decide⟩ rfl
    · have b_18 := b_18.resolve_left c_22
      obtain ⟨-, h_19, h_20, h_21⟩ := b_18
      refine g_aload_n (n := 26) hx 0 (dq tX10_roomAhead 15 rfl) rfl rfl ?_
      refine g_aload_n (n := 27) hx 0 (dq tX10_roomAhead 16 rfl) rfl rfl ?_
      refine g_getR (n := 30) hx glX10_43 (sX10_12 (by decide)) (dq tX10_roomAhead 17 rfl) rfl ?_
      refine g_iload_n (n := 31) hx 1 (dq tX10_roomAhead 18 rfl) rfl rfl ?_
      refine g_iald (n := 32) (q := l.toNat) hx (aX10_12 (b := 229) (by decide)) (dq tX10_roomAhead 19 rfl) rfl (by omega) (by omega) (by omega) rfl (fun h_23l h_23u => ?_)
      refine g_iv (fun h_25 => ?_)
      have h_25v : (0 : Int) ≤ M (229 + 1) 1 ∧ M (229 + 1) 1 ≤ 6 := h_25 230 1
      have h_25l : (0 : Int) ≤ M (229 + 1) 3 ∧ M (229 + 1) 3 ≤ 12 := h_25 230 3
      clear h_25
      have h_24 := gm.2.2.1 l.toNat (by omega)
      have h_24s := PlOk.shore h_24
      have h_24w := PlOk.water h_24
      have h_24r := PlOk.rg h_24 (by omega)
      clear h_24
      refine g_iconst (n := 33) hx (dq tX10_roomAhead 20 rfl) rfl ?_
      refine g_iadd (n := 34) hx (dq tX10_roomAhead 21 rfl) rfl ?_
      refine g_callVi (n := 37) (As := [vI ((M (229 + 12) l.toNat) + 1)]) (rest := []) hx (ctX10_roomAt Γ M ((M (229 + 12) l.toNat) + 1) (by omega) (by omega)) mlX10_470 (obX10 (by decide)) (dq tX10_roomAhead 22 rfl) rfl (Nat.le_of_ble_eq_true rfl) (Nat.le_of_ble_eq_true rfl) (Nat.le_of_ble_eq_true rfl) rfl (fun z_26 M_27 h_28 p_29 => ?_)
      obtain rfl := p_29
      refine g_goto (n := 42) hx (dq tX10_roomAhead 23 rfl) (by decide) ?_
      exact g_iret hx hr (dq tX10_roomAhead 25 rfl) h_28 rfl
  · clear b_6
    refine g_iconst (n := 9) hx (dq tX10_roomAhead 4 rfl) rfl ?_
    exact g_iret hx hr (dq tX10_roomAhead 5 rfl) ⟨by decide, by decide⟩ rfl

abbrev qctX10_byMost (M : zM) (l : Int) (z : Int) (M' : zM) : Prop := M = M' ∧ (-1) ≤ z ∧ z ≤ 5
set_option maxHeartbeats 4000000 in
set_option maxRecDepth 100000 in
theorem ctX10_byMost (Γ : Gam) (M : zM) (l : Int) (hll : 0 ≤ l) (hlu : l ≤ 11) (pre0 : l < M (229 + 1) 3) (gm : Gm M) : CtI Γ yX10_byMost cX10_byMost 4 (some .int) 1 24 [aR Γ 229, vI l] M (qctX10_byMost M l) := by
  refine met_i (by decide) (Nat.le_of_ble_eq_true rfl) (fun x hx hr => ?_)
  show G Γ x 4 (QI Γ x (qctX10_byMost M l)) M 0 [(0, aR Γ 229), (1, vI l)] []
  refine g_iconst (n := 1) hx (dq tX10_byMost 0 rfl) rfl ?_
  refine g_istore_n (n := 2) (lv' := [(2, vI (-1)), (0, aR Γ 229), (1, vI l)]) hx (dq tX10_byMost 1 rfl) (by decide) rfl rfl ?_
  refine g_iconst (n := 3) hx (dq tX10_byMost 2 rfl) rfl ?_
  refine g_istore_n (n := 4) (lv' := [(3, vI 0), (2, vI (-1)), (0, aR Γ 229), (1, vI l)]) hx (dq tX10_byMost 3 rfl) (by decide) rfl rfl ?_
  have L_3 : ∀ (n_ : Nat) (i_1 : Int) (i_2 : Int), (0 ≤ i_1) → (i_1 ≤ 6) → ((-1) ≤ i_2) → (i_2 ≤ 5) → ((6 - i_1).toNat = n_) → G Γ x 4 (QI Γ x (qctX10_byMost M l)) M 4 [(3, vI i_1), (2, vI i_2), (0, aR Γ 229), (1, vI l)] [] := by
    intro n_
    induction n_ using Nat.strongRecOn with
    | _ n_ ih_4 =>
      intro i_1 i_2 h_7 h_8 h_9 h_10 hm_6
      refine g_iload_n (n := 5) hx 0 (dq tX10_byMost 4 rfl) rfl rfl ?_
      refine g_aload_n (n := 6) hx 2 (dq tX10_byMost 5 rfl) rfl rfl ?_
      refine g_getR (n := 9) hx glX10_9 (sX10_1 (by decide)) (dq tX10_byMost 6 rfl) rfl ?_
      refine g_iconst (n := 10) hx (dq tX10_byMost 7 rfl) rfl ?_
      refine g_ialdX (n := 11) (q := 1) hx (aX10_1 (b := 229) (by decide)) (dq tX10_byMost 8 rfl) rfl (by decide) (by decide) (by decide) rfl (fun h_11l h_11u => ?_)
      have h_11l : 0 ≤ M (229 + 1) 1 := h_11l
      have h_11u : M (229 + 1) 1 ≤ 6 := h_11u
      refine g_icmp_ge (n := 14) (t := 51) hx (dq tX10_byMost 9 rfl) (by decide) rfl ⟨by omega, by omega⟩ (zrI h_11l h_11u (by decide) (by decide)) (fun c_12 => ?_) (fun c_12 => ?_)
      · refine g_iload_n (n := 52) hx 1 (dq tX10_byMost 31 rfl) rfl rfl ?_
        exact g_iret hx hr (dq tX10_byMost 32 rfl) ⟨by omega, by omega⟩ ⟨rfl, (by omega), (by omega)⟩
      · refine g_aload_n (n := 15) hx 2 (dq tX10_byMost 10 rfl) rfl rfl ?_
        refine g_iload_n (n := 16) hx 3 (dq tX10_byMost 11 rfl) rfl rfl ?_
        refine g_iload_n (n := 17) hx 0 (dq tX10_byMost 12 rfl) rfl rfl ?_
        refine g_callVi (n := 20) (As := [vI l, vI i_1]) (rest := []) hx (ctX10_notchesOf Γ M l (by omega) (by omega) i_1 (by omega) (by omega)) mlX10_448 (obX10 (by decide)) (dq tX10_byMost 13 rfl) rfl (Nat.le_of_ble_eq_true rfl) (Nat.le_of_ble_eq_true rfl) (Nat.le_of_ble_eq_true rfl) rfl (fun z_13 M_14 h_15 p_16 => ?_)
        obtain rfl := p_16
        refine g_if_le (n := 23) (t := 45) hx (dq tX10_byMost 14 rfl) (by decide) rfl h_15 (fun c_18 => ?_) (fun c_18 => ?_)
        · refine g_iinc (n := 48) (lv' := [(3, vI (i_1 + 1)), (2, vI i_2), (0, aR Γ 229), (1, vI l)]) hx 0 (dq tX10_byMost 29 rfl) rfl (by decide) rfl rfl ?_
          refine g_goto (n := 4) hx (dq tX10_byMost 30 rfl) (by decide) ?_
          exact ih_4 _ (by omega) (i_1 + 1) i_2 (by omega) (by omega) (by omega) (by omega) rfl
        · refine g_iload_n (n := 24) hx 1 (dq tX10_byMost 15 rfl) rfl rfl ?_
          refine g_iconst (n := 25) hx (dq tX10_byMost 16 rfl) rfl ?_
          refine g_icmp_eq (n := 28) (t := 43) hx (dq tX10_byMost 17 rfl) (by decide) rfl ⟨by omega, by omega⟩ ⟨by decide, by decide⟩ (fun c_19 => ?_) (fun c_19 => ?_)
          · refine g_iload_n (n := 44) hx 0 (dq tX10_byMost 27 rfl) rfl rfl ?_
            refine g_istore_n (n := 45) (lv' := [(2, vI i_1), (3, vI i_1), (0, aR Γ 229), (1, vI l)]) hx (dq tX10_byMost 28 rfl) (by decide) rfl rfl ?_
            refine g_iinc (n := 48) (lv' := [(3, vI (i_1 + 1)), (2, vI i_1), (0, aR Γ 229), (1, vI l)]) hx 1 (dq tX10_byMost 29 rfl) rfl (by decide) rfl rfl ?_
            refine g_goto (n := 4) hx (dq tX10_byMost 30 rfl) (by decide) ?_
            exact ih_4 _ (by omega) (i_1 + 1) i_1 (by omega) (by omega) (by omega) (by omega) rfl
          · refine g_aload_n (n := 29) hx 2 (dq tX10_byMost 18 rfl) rfl rfl ?_
            refine g_iload_n (n := 30) hx 3 (dq tX10_byMost 19 rfl) rfl rfl ?_
            refine g_iload_n (n := 31) hx 0 (dq tX10_byMost 20 rfl) rfl rfl ?_
            refine g_callVi (n := 34) (As := [vI l, vI i_1]) (rest := []) hx (ctX10_notchesOf Γ M l (by omega) (by omega) i_1 (by omega) (by omega)) mlX10_448 (obX10 (by decide)) (dq tX10_byMost 21 rfl) rfl (Nat.le_of_ble_eq_true rfl) (Nat.le_of_ble_eq_true rfl) (Nat.le_of_ble_eq_true rfl) rfl (fun z_20 M_21 h_22 p_23 => ?_)
            obtain rfl := p_23
            refine g_aload_n (n := 35) hx 2 (dq tX10_byMost 22 rfl) rfl rfl ?_
            refine g_iload_n (n := 36) hx 3 (dq tX10_byMost 23 rfl) rfl rfl ?_
            refine g_iload_n (n := 37) hx 1 (dq tX10_byMost 24 rfl) rfl rfl ?_
            refine g_callVi (n := 40) (As := [vI l, vI i_2]) (rest := [vI z_20]) hx (ctX10_notchesOf Γ M l (by omega) (by omega) i_2 (by omega) (by omega)) mlX10_448 (obX10 (by decide)) (dq tX10_byMost 25 rfl) rfl (Nat.le_of_ble_eq_true rfl) (Nat.le_of_ble_eq_true rfl) (Nat.le_of_ble_eq_true rfl) rfl (fun z_25 M_26 h_27 p_28 => ?_)
            obtain rfl := p_28
            refine g_icmp_le (n := 43) (t := 45) hx (dq tX10_byMost 26 rfl) (by decide) rfl h_22 h_27 (fun c_30 => ?_) (fun c_30 => ?_)
            · refine g_iinc (n := 48) (lv' := [(3, vI (i_1 + 1)), (2, vI i_2), (0, aR Γ 229), (1, vI l)]) hx 0 (dq tX10_byMost 29 rfl) rfl (by decide) rfl rfl ?_
              refine g_goto (n := 4) hx (dq tX10_byMost 30 rfl) (by decide) ?_
              exact ih_4 _ (by omega) (i_1 + 1) i_2 (by omega) (by omega) (by omega) (by omega) rfl
            · refine g_iload_n (n := 44) hx 0 (dq tX10_byMost 27 rfl) rfl rfl ?_
              refine g_istore_n (n := 45) (lv' := [(2, vI i_1), (3, vI i_1), (0, aR Γ 229), (1, vI l)]) hx (dq tX10_byMost 28 rfl) (by decide) rfl rfl ?_
              refine g_iinc (n := 48) (lv' := [(3, vI (i_1 + 1)), (2, vI i_1), (0, aR Γ 229), (1, vI l)]) hx 1 (dq tX10_byMost 29 rfl) rfl (by decide) rfl rfl ?_
              refine g_goto (n := 4) hx (dq tX10_byMost 30 rfl) (by decide) ?_
              exact ih_4 _ (by omega) (i_1 + 1) i_1 (by omega) (by omega) (by omega) (by omega) rfl
  exact L_3 _ 0 (-1) (by omega) (by omega) (by omega) (by omega) rfl

abbrev qctX10_asks (M : zM) (l : Int) (village : Int) (owner : Int) (room : Int) (M' : zM) : Prop := M = M'
set_option maxHeartbeats 4000000 in
set_option maxRecDepth 100000 in
theorem ctX10_asks (Γ : Gam) (M : zM) (l : Int) (hll : 0 ≤ l) (hlu : l ≤ 11) (village : Int) (hvillagel : (-2147483648) ≤ village) (hvillageu : village ≤ 2147483647) (owner : Int) (hownerl : (-2147483648) ≤ owner) (howneru : owner ≤ 2147483647) (room : Int) (hrooml : (-2147483648) ≤ room) (hroomu : room ≤ 2147483647) (pre0 : l < M (229 + 1) 3) (gm : Gm M) : CtV Γ yX10_asks cX10_asks 5 none 3 67 [aR Γ 229, vI l, vI village, vI owner, vI room] M (qctX10_asks M l village owner room) := by
  refine met_v (by decide) (Nat.le_of_ble_eq_true rfl) (fun x hx hr => ?_)
  show G Γ x 5 (QV Γ x (qctX10_asks M l village owner room)) M 0 [(0, aR Γ 229), (1, vI l), (2, vI village), (3, vI owner), (4, vI room)] []
  refine g_aload_n (n := 1) hx 0 (dq tX10_asks 0 rfl) rfl rfl ?_
  refine g_getR (n := 4) hx glX10_150 (sX10_57 (by decide)) (dq tX10_asks 1 rfl) rfl ?_
  refine g_iconst (n := 5) hx (dq tX10_asks 2 rfl) rfl ?_
  refine g_iload_n (n := 6) hx 1 (dq tX10_asks 3 rfl) rfl rfl ?_
  refine g_i2l (n := 7) hx (dq tX10_asks 4 rfl) rfl (zrI hll hlu (by decide) (by decide)) ?_
  refine g_last (n := 8) hx (aX10_57 (b := 229) (by decide)) (dq tX10_asks 5 rfl) rfl (by decide) (by decide) (by decide) ?_
  refine g_aload_n (n := 9) hx 0 (dq tX10_asks 6 rfl) rfl rfl ?_
  refine g_getR (n := 12) hx glX10_150 (sX10_57 (by decide)) (dq tX10_asks 7 rfl) rfl ?_
  refine g_iconst (n := 13) hx (dq tX10_asks 8 rfl) rfl ?_
  refine g_aload_n (n := 14) hx 0 (dq tX10_asks 9 rfl) rfl rfl ?_
  refine g_getR (n := 17) hx glX10_34 (sX10_9 (by decide)) (dq tX10_asks 10 rfl) rfl ?_
  refine g_iload_n (n := 18) hx 1 (dq tX10_asks 11 rfl) rfl rfl ?_
  refine g_iald (n := 19) (q := l.toNat) hx (aX10_9 (b := 229) (by decide)) (dq tX10_asks 12 rfl) rfl (by omega) (by omega) (by omega) rfl (fun h_1l h_1u => ?_)
  refine g_i2l (n := 20) hx (dq tX10_asks 13 rfl) rfl (zrI h_1l h_1u (by decide) (by decide)) ?_
  refine g_last (n := 21) hx (aX10_57 (b := 229) (by decide)) (dq tX10_asks 14 rfl) rfl (by decide) (by decide) (by decide) ?_
  refine g_aload_n (n := 22) hx 0 (dq tX10_asks 15 rfl) rfl rfl ?_
  refine g_getR (n := 25) hx glX10_150 (sX10_57 (by decide)) (dq tX10_asks 16 rfl) rfl ?_
  refine g_iconst (n := 26) hx (dq tX10_asks 17 rfl) rfl ?_
  refine g_aload_n (n := 27) hx 0 (dq tX10_asks 18 rfl) rfl rfl ?_
  refine g_getR (n := 30) hx glX10_37 (sX10_10 (by decide)) (dq tX10_asks 19 rfl) rfl ?_
  refine g_iload_n (n := 31) hx 1 (dq tX10_asks 20 rfl) rfl rfl ?_
  refine g_iald (n := 32) (q := l.toNat) hx (aX10_10 (b := 229) (by decide)) (dq tX10_asks 21 rfl) rfl (by omega) (by omega) (by omega) rfl (fun h_2l h_2u => ?_)
  refine g_i2l (n := 33) hx (dq tX10_asks 22 rfl) rfl (zrI h_2l h_2u (by decide) (by decide)) ?_
  refine g_last (n := 34) hx (aX10_57 (b := 229) (by decide)) (dq tX10_asks 23 rfl) rfl (by decide) (by decide) (by decide) ?_
  refine g_aload_n (n := 35) hx 0 (dq tX10_asks 24 rfl) rfl rfl ?_
  refine g_getR (n := 38) hx glX10_150 (sX10_57 (by decide)) (dq tX10_asks 25 rfl) rfl ?_
  refine g_iconst (n := 39) hx (dq tX10_asks 26 rfl) rfl ?_
  refine g_aload_n (n := 40) hx 0 (dq tX10_asks 27 rfl) rfl rfl ?_
  refine g_getR (n := 43) hx glX10_40 (sX10_11 (by decide)) (dq tX10_asks 28 rfl) rfl ?_
  refine g_iload_n (n := 44) hx 1 (dq tX10_asks 29 rfl) rfl rfl ?_
  refine g_iald (n := 45) (q := l.toNat) hx (aX10_11 (b := 229) (by decide)) (dq tX10_asks 30 rfl) rfl (by omega) (by omega) (by omega) rfl (fun h_3l h_3u => ?_)
  refine g_i2l (n := 46) hx (dq tX10_asks 31 rfl) rfl (zrI h_3l h_3u (by decide) (by decide)) ?_
  refine g_last (n := 47) hx (aX10_57 (b := 229) (by decide)) (dq tX10_asks 32 rfl) rfl (by decide) (by decide) (by decide) ?_
  refine g_aload_n (n := 48) hx 0 (dq tX10_asks 33 rfl) rfl rfl ?_
  refine g_getR (n := 51) hx glX10_150 (sX10_57 (by decide)) (dq tX10_asks 34 rfl) rfl ?_
  refine g_iconst (n := 52) hx (dq tX10_asks 35 rfl) rfl ?_
  refine g_aload_n (n := 53) hx 0 (dq tX10_asks 36 rfl) rfl rfl ?_
  refine g_iload_n (n := 54) hx 1 (dq tX10_asks 37 rfl) rfl rfl ?_
  refine g_callVi (n := 57) (As := [vI l]) (rest := [vI 4, aR Γ (229 + 46)]) hx (ctX10_bendOf Γ M l (by omega) (by omega) (by omega) gm) mlX10_213 (obX10 (by decide)) (dq tX10_asks 38 rfl) rfl (Nat.le_of_ble_eq_true rfl) (Nat.le_of_ble_eq_true rfl) (Nat.le_of_ble_eq_true rfl) rfl (fun z_4 M_5 h_6 p_7 => ?_)
  obtain ⟨rfl, h_9, h_10, h_11⟩ := p_7
  refine g_i2l (n := 58) hx (dq tX10_asks 39 rfl) rfl h_6 ?_
  refine g_last (n := 59) hx (aX10_57 (b := 229) (by decide)) (dq tX10_asks 40 rfl) rfl (by decide) (by decide) (by decide) ?_
  refine g_aload_n (n := 60) hx 0 (dq tX10_asks 41 rfl) rfl rfl ?_
  refine g_getR (n := 63) hx glX10_150 (sX10_57 (by decide)) (dq tX10_asks 42 rfl) rfl ?_
  refine g_iconst (n := 64) hx (dq tX10_asks 43 rfl) rfl ?_
  refine g_iload_n (n := 65) hx 2 (dq tX10_asks 44 rfl) rfl rfl ?_
  refine g_callSi (n := 68) (As := [vI village]) (rest := [vI 5, aR Γ (229 + 46)]) hx (ctX10_orNine Γ M village (by omega) (by omega)) mlX10_424 (dq tX10_asks 45 rfl) rfl (Nat.le_of_ble_eq_true rfl) (Nat.le_of_ble_eq_true rfl) (Nat.le_of_ble_eq_true rfl) rfl (fun z_12 M_13 h_14 p_15 => ?_)
  obtain rfl := p_15
  refine g_i2l (n := 69) hx (dq tX10_asks 46 rfl) rfl h_14 ?_
  refine g_last (n := 70) hx (aX10_57 (b := 229) (by decide)) (dq tX10_asks 47 rfl) rfl (by decide) (by decide) (by decide) ?_
  refine g_aload_n (n := 71) hx 0 (dq tX10_asks 48 rfl) rfl rfl ?_
  refine g_getR (n := 74) hx glX10_150 (sX10_57 (by decide)) (dq tX10_asks 49 rfl) rfl ?_
  refine g_bipush (n := 76) hx (dq tX10_asks 50 rfl) rfl (by decide) ?_
  refine g_iload_n (n := 77) hx 3 (dq tX10_asks 51 rfl) rfl rfl ?_
  refine g_callSi (n := 80) (As := [vI owner]) (rest := [vI 6, aR Γ (229 + 46)]) hx (ctX10_orNine Γ M owner (by omega) (by omega)) mlX10_424 (dq tX10_asks 52 rfl) rfl (Nat.le_of_ble_eq_true rfl) (Nat.le_of_ble_eq_true rfl) (Nat.le_of_ble_eq_true rfl) rfl (fun z_17 M_18 h_19 p_20 => ?_)
  obtain rfl := p_20
  refine g_i2l (n := 81) hx (dq tX10_asks 53 rfl) rfl h_19 ?_
  refine g_last (n := 82) hx (aX10_57 (b := 229) (by decide)) (dq tX10_asks 54 rfl) rfl (by decide) (by decide) (by decide) ?_
  refine g_aload_n (n := 83) hx 0 (dq tX10_asks 55 rfl) rfl rfl ?_
  refine g_getR (n := 86) hx glX10_150 (sX10_57 (by decide)) (dq tX10_asks 56 rfl) rfl ?_
  refine g_bipush (n := 88) hx (dq tX10_asks 57 rfl) rfl (by decide) ?_
  refine g_aload_n (n := 89) hx 0 (dq tX10_asks 58 rfl) rfl rfl ?_
  refine g_iload_n (n := 90) hx 1 (dq tX10_asks 59 rfl) rfl rfl ?_
  refine g_callVi (n := 93) (As := [vI l]) (rest := [vI 7, aR Γ (229 + 46)]) hx (ctX10_firstOf Γ M l (by omega) (by omega)) mlX10_427 (obX10 (by decide)) (dq tX10_asks 60 rfl) rfl (Nat.le_of_ble_eq_true rfl) (Nat.le_of_ble_eq_true rfl) (Nat.le_of_ble_eq_true rfl) rfl (fun z_22 M_23 h_24 p_25 => ?_)
  obtain rfl := p_25
  refine g_callSi (n := 96) (As := [vI z_22]) (rest := [vI 7, aR Γ (229 + 46)]) hx (ctX10_orNine Γ M z_22 (by omega) (by omega)) mlX10_424 (dq tX10_asks 61 rfl) rfl (Nat.le_of_ble_eq_true rfl) (Nat.le_of_ble_eq_true rfl) (Nat.le_of_ble_eq_true rfl) rfl (fun z_27 M_28 h_29 p_30 => ?_)
  obtain rfl := p_30
  refine g_i2l (n := 97) hx (dq tX10_asks 62 rfl) rfl h_29 ?_
  refine g_last (n := 98) hx (aX10_57 (b := 229) (by decide)) (dq tX10_asks 63 rfl) rfl (by decide) (by decide) (by decide) ?_
  refine g_aload_n (n := 99) hx 0 (dq tX10_asks 64 rfl) rfl rfl ?_
  refine g_getR (n := 102) hx glX10_150 (sX10_57 (by decide)) (dq tX10_asks 65 rfl) rfl ?_
  refine g_bipush (n := 104) hx (dq tX10_asks 66 rfl) rfl (by decide) ?_
  refine g_aload_n (n := 105) hx 0 (dq tX10_asks 67 rfl) rfl rfl ?_
  refine g_iload_n (n := 106) hx 1 (dq tX10_asks 68 rfl) rfl rfl ?_
  refine g_callVi (n := 109) (As := [vI l]) (rest := [vI 8, aR Γ (229 + 46)]) hx (ctX10_lastOf Γ M l (by omega) (by omega)) mlX10_430 (obX10 (by decide)) (dq tX10_asks 69 rfl) rfl (Nat.le_of_ble_eq_true rfl) (Nat.le_of_ble_eq_true rfl) (Nat.le_of_ble_eq_true rfl) rfl (fun z_32 M_33 h_34 p_35 => ?_)
  obtain rfl := p_35
  refine g_callSi (n := 112) (As := [vI z_32]) (rest := [vI 8, aR Γ (229 + 46)]) hx (ctX10_orNine Γ M z_32 (by omega) (by omega)) mlX10_424 (dq tX10_asks 70 rfl) rfl (Nat.le_of_ble_eq_true rfl) (Nat.le_of_ble_eq_true rfl) (Nat.le_of_ble_eq_true rfl) rfl (fun z_37 M_38 h_39 p_40 => ?_)
  obtain rfl := p_40
  refine g_i2l (n := 113) hx (dq tX10_asks 71 rfl) rfl h_39 ?_
  refine g_last (n := 114) hx (aX10_57 (b := 229) (by decide)) (dq tX10_asks 72 rfl) rfl (by decide) (by decide) (by decide) ?_
  refine g_aload_n (n := 115) hx 0 (dq tX10_asks 73 rfl) rfl rfl ?_
  refine g_getR (n := 118) hx glX10_150 (sX10_57 (by decide)) (dq tX10_asks 74 rfl) rfl ?_
  refine g_bipush (n := 120) hx (dq tX10_asks 75 rfl) rfl (by decide) ?_
  refine g_aload_n (n := 121) hx 0 (dq tX10_asks 76 rfl) rfl rfl ?_
  refine g_getR (n := 124) hx glX10_46 (sX10_13 (by decide)) (dq tX10_asks 77 rfl) rfl ?_
  refine g_iload_n (n := 125) hx 1 (dq tX10_asks 78 rfl) rfl rfl ?_
  refine g_iald (n := 126) (q := l.toNat) hx (aX10_13 (b := 229) (by decide)) (dq tX10_asks 79 rfl) rfl (by omega) (by omega) (by omega) rfl (fun h_42l h_42u => ?_)
  refine g_i2l (n := 127) hx (dq tX10_asks 80 rfl) rfl (zrI h_42l h_42u (by decide) (by decide)) ?_
  refine g_last (n := 128) hx (aX10_57 (b := 229) (by decide)) (dq tX10_asks 81 rfl) rfl (by decide) (by decide) (by decide) ?_
  refine g_aload_n (n := 129) hx 0 (dq tX10_asks 82 rfl) rfl rfl ?_
  refine g_getR (n := 132) hx glX10_150 (sX10_57 (by decide)) (dq tX10_asks 83 rfl) rfl ?_
  refine g_bipush (n := 134) hx (dq tX10_asks 84 rfl) rfl (by decide) ?_
  refine g_iload (n := 136) hx 4 (dq tX10_asks 85 rfl) rfl rfl ?_
  refine g_i2l (n := 137) hx (dq tX10_asks 86 rfl) rfl (zrI hrooml hroomu (by decide) (by decide)) ?_
  refine g_last (n := 138) hx (aX10_57 (b := 229) (by decide)) (dq tX10_asks 87 rfl) rfl (by decide) (by decide) (by decide) ?_
  refine g_aload_n (n := 139) hx 0 (dq tX10_asks 88 rfl) rfl rfl ?_
  refine g_getR (n := 142) hx glX10_150 (sX10_57 (by decide)) (dq tX10_asks 89 rfl) rfl ?_
  refine g_bipush (n := 144) hx (dq tX10_asks 90 rfl) rfl (by decide) ?_
  refine g_aload_n (n := 145) hx 0 (dq tX10_asks 91 rfl) rfl rfl ?_
  refine g_getR (n := 148) hx glX10_9 (sX10_1 (by decide)) (dq tX10_asks 92 rfl) rfl ?_
  refine g_bipush (n := 150) hx (dq tX10_asks 93 rfl) rfl (by decide) ?_
  refine g_ialdX (n := 151) (q := 8) hx (aX10_1 (b := 229) (by decide)) (dq tX10_asks 94 rfl) rfl (by decide) (by decide) (by decide) rfl (fun h_43l h_43u => ?_)
  have h_43l : (-2147483648) ≤ M (229 + 1) 8 := h_43l
  have h_43u : M (229 + 1) 8 ≤ 2147483647 := h_43u
  refine g_i2l (n := 152) hx (dq tX10_asks 95 rfl) rfl (zrI h_43l h_43u (by decide) (by decide)) ?_
  refine g_last (n := 153) hx (aX10_57 (b := 229) (by decide)) (dq tX10_asks 96 rfl) rfl (by decide) (by decide) (by decide) ?_
  refine g_aload_n (n := 154) hx 0 (dq tX10_asks 97 rfl) rfl rfl ?_
  refine g_getR (n := 157) hx glX10_150 (sX10_57 (by decide)) (dq tX10_asks 98 rfl) rfl ?_
  refine g_bipush (n := 159) hx (dq tX10_asks 99 rfl) rfl (by decide) ?_
  refine g_aload_n (n := 160) hx 0 (dq tX10_asks 100 rfl) rfl rfl ?_
  refine g_getR (n := 163) hx glX10_9 (sX10_1 (by decide)) (dq tX10_asks 101 rfl) rfl ?_
  refine g_bipush (n := 165) hx (dq tX10_asks 102 rfl) rfl (by decide) ?_
  refine g_ialdX (n := 166) (q := 7) hx (aX10_1 (b := 229) (by decide)) (dq tX10_asks 103 rfl) rfl (by decide) (by decide) (by decide) rfl (fun h_44l h_44u => ?_)
  have h_44l : 0 ≤ M (229 + 1) 7 := h_44l
  have h_44u : M (229 + 1) 7 ≤ 10100 := h_44u
  refine g_i2l (n := 167) hx (dq tX10_asks 104 rfl) rfl (zrI h_44l h_44u (by decide) (by decide)) ?_
  refine g_last (n := 168) hx (aX10_57 (b := 229) (by decide)) (dq tX10_asks 105 rfl) rfl (by decide) (by decide) (by decide) ?_
  exact g_vret hx hr (dq tX10_asks 106 rfl) rfl

abbrev qctX10_bend (M : zM) (b_ : Int) (what : Int) (z : Int) (M' : zM) : Prop := M = M'
set_option maxHeartbeats 4000000 in
set_option maxRecDepth 100000 in
theorem ctX10_bend (Γ : Gam) (M : zM) (b_ : Int) (hb_l : (-2147483648) ≤ b_) (hb_u : b_ ≤ 2147483647) (what : Int) (hwhatl : (-2147483648) ≤ what) (hwhatu : what ≤ 2147483647) (gm : Gm M) : CtI Γ yX10_bend cX10_bend 3 (some .int) 2 46 [aR Γ 229, vI b_, vI what] M (qctX10_bend M b_ what) := by
  refine met_i (by decide) (Nat.le_of_ble_eq_true rfl) (fun x hx hr => ?_)
  show G Γ x 3 (QI Γ x (qctX10_bend M b_ what)) M 0 [(0, aR Γ 229), (1, vI b_), (2, vI what)] []
  refine g_aload_n (n := 1) hx 0 (dq tX10_bend 0 rfl) rfl rfl ?_
  refine g_iload_n (n := 2) hx 1 (dq tX10_bend 1 rfl) rfl rfl ?_
  refine g_callVi (n := 5) (As := [vI b_]) (rest := []) hx (ctX10_isBend Γ M b_ (by omega) (by omega)) mlX10_467 (obX10 (by decide)) (dq tX10_bend 2 rfl) rfl (Nat.le_of_ble_eq_true rfl) (Nat.le_of_ble_eq_true rfl) (Nat.le_of_ble_eq_true rfl) rfl (fun z_1 M_2 h_3 p_4 => ?_)
  obtain ⟨rfl, b_6⟩ := p_4
  refine g_if_ne (n := 8) (t := 10) hx (dq tX10_bend 3 rfl) (by decide) rfl h_3 (fun c_10 => ?_) (fun c_10 => ?_)
  · have b_6 := b_6.resolve_left c_10
    obtain ⟨-, h_7, h_8, h_9⟩ := b_6
    refine g_iload_n (n := 11) hx 2 (dq tX10_bend 6 rfl) rfl rfl ?_
    by_cases c_11 : what = 0
    · refine g_swI (t := 40) hx (dq tX10_bend 7 rfl) c_11 (by decide) (by decide) rfl (by decide) ?_
      refine g_aload_n (n := 41) hx 0 (dq tX10_bend 8 rfl) rfl rfl ?_
      refine g_getR (n := 44) hx glX10_13 (sX10_2 (by decide)) (dq tX10_bend 9 rfl) rfl ?_
      refine g_iload_n (n := 45) hx 1 (dq tX10_bend 10 rfl) rfl rfl ?_
      refine g_iald (n := 46) (q := b_.toNat) hx (aX10_2 (b := 229) (by decide)) (dq tX10_bend 11 rfl) rfl (by omega) (by omega) (by omega) rfl (fun h_12l h_12u => ?_)
      exact g_iret hx hr (dq tX10_bend 12 rfl) (zrI h_12l h_12u (by decide) (by decide)) rfl
    by_cases c_13 : what = 1
    · refine g_swI (t := 47) hx (dq tX10_bend 7 rfl) c_13 (by decide) (by decide) rfl (by decide) ?_
      refine g_aload_n (n := 48) hx 0 (dq tX10_bend 13 rfl) rfl rfl ?_
      refine g_getR (n := 51) hx glX10_16 (sX10_3 (by decide)) (dq tX10_bend 14 rfl) rfl ?_
      refine g_iload_n (n := 52) hx 1 (dq tX10_bend 15 rfl) rfl rfl ?_
      refine g_iald (n := 53) (q := b_.toNat) hx (aX10_3 (b := 229) (by decide)) (dq tX10_bend 16 rfl) rfl (by omega) (by omega) (by omega) rfl (fun h_14l h_14u => ?_)
      exact g_iret hx hr (dq tX10_bend 17 rfl) (zrI h_14l h_14u (by decide) (by decide)) rfl
    by_cases c_15 : what = 2
    · refine g_swI (t := 54) hx (dq tX10_bend 7 rfl) c_15 (by decide) (by decide) rfl (by decide) ?_
      refine g_aload_n (n := 55) hx 0 (dq tX10_bend 18 rfl) rfl rfl ?_
      refine g_iload_n (n := 56) hx 1 (dq tX10_bend 19 rfl) rfl rfl ?_
      refine g_callVi (n := 59) (As := [vI b_]) (rest := []) hx (ctX10_logsAt Γ M b_ (by omega) (by omega)) mlX10_206 (obX10 (by decide)) (dq tX10_bend 20 rfl) rfl (Nat.le_of_ble_eq_true rfl) (Nat.le_of_ble_eq_true rfl) (Nat.le_of_ble_eq_true rfl) rfl (fun z_16 M_17 h_18 p_19 => ?_)
      obtain rfl := p_19
      exact g_iret hx hr (dq tX10_bend 21 rfl) h_18 rfl
    by_cases c_21 : what = 3
    · refine g_swI (t := 60) hx (dq tX10_bend 7 rfl) c_21 (by decide) (by decide) rfl (by decide) ?_
      refine g_aload_n (n := 61) hx 0 (dq tX10_bend 22 rfl) rfl rfl ?_
      refine g_iload_n (n := 62) hx 1 (dq tX10_bend 23 rfl) rfl rfl ?_
      refine g_callVi (n := 65) (As := [vI b_]) (rest := []) hx (ctX10_roomAt Γ M b_ (by omega) (by omega)) mlX10_470 (obX10 (by decide)) (dq tX10_bend 24 rfl) rfl (Nat.le_of_ble_eq_true rfl) (Nat.le_of_ble_eq_true rfl) (Nat.le_of_ble_eq_true rfl) rfl (fun z_22 M_23 h_24 p_25 => ?_)
      obtain rfl := p_25
      exact g_iret hx hr (dq tX10_bend 25 rfl) h_24 rfl
    refine g_swO (t := 66) hx (dq tX10_bend 7 rfl) (zrI hwhatl hwhatu (by decide) (by decide)) (by omega) (by decide) ?_
    refine g_iconst (n := 67) hx (dq tX10_bend 26 rfl) rfl ?_
    exact g_iret hx hr (dq tX10_bend 27 rfl) ⟨by decide, by decide⟩ rfl
  · clear b_6
    refine g_iconst (n := 9) hx (dq tX10_bend 4 rfl) rfl ?_
    exact g_iret hx hr (dq tX10_bend 5 rfl) ⟨by decide, by decide⟩ rfl

abbrev qctX10_notch (M : zM) (l : Int) (at_ : Int) (z : Int) (M' : zM) : Prop := M = M'
set_option maxHeartbeats 4000000 in
set_option maxRecDepth 100000 in
theorem ctX10_notch (Γ : Gam) (M : zM) (l : Int) (hll : (-2147483648) ≤ l) (hlu : l ≤ 2147483647) (at_ : Int) (hat_l : (-2147483648) ≤ at_) (hat_u : at_ ≤ 2147483647) (gm : Gm M) : CtI Γ yX10_notch cX10_notch 3 (some .int) 2 46 [aR Γ 229, vI l, vI at_] M (qctX10_notch M l at_) := by
  refine met_i (by decide) (Nat.le_of_ble_eq_true rfl) (fun x hx hr => ?_)
  show G Γ x 3 (QI Γ x (qctX10_notch M l at_)) M 0 [(0, aR Γ 229), (1, vI l), (2, vI at_)] []
  refine g_aload_n (n := 1) hx 0 (dq tX10_notch 0 rfl) rfl rfl ?_
  refine g_iload_n (n := 2) hx 1 (dq tX10_notch 1 rfl) rfl rfl ?_
  refine g_callVi (n := 5) (As := [vI l]) (rest := []) hx (ctX10_isLog Γ M l (by omega) (by omega)) mlX10_483 (obX10 (by decide)) (dq tX10_notch 2 rfl) rfl (Nat.le_of_ble_eq_true rfl) (Nat.le_of_ble_eq_true rfl) (Nat.le_of_ble_eq_true rfl) rfl (fun z_1 M_2 h_3 p_4 => ?_)
  obtain ⟨rfl, b_6⟩ := p_4
  refine g_if_ne (n := 8) (t := 11) hx (dq tX10_notch 3 rfl) (by decide) rfl h_3 (fun c_10 => ?_) (fun c_10 => ?_)
  · have b_6 := b_6.resolve_left c_10
    obtain ⟨-, h_7, h_8, h_9⟩ := b_6
    refine g_iload_n (n := 12) hx 2 (dq tX10_notch 6 rfl) rfl rfl ?_
    refine g_i2l (n := 13) hx (dq tX10_notch 7 rfl) rfl (zrI hat_l hat_u (by decide) (by decide)) ?_
    refine g_lconst (n := 14) (z := 0) hx (dq tX10_notch 8 rfl) rfl (by decide) ?_
    refine g_aload_n (n := 15) hx 0 (dq tX10_notch 9 rfl) rfl rfl ?_
    refine g_getR (n := 18) hx glX10_46 (sX10_13 (by decide)) (dq tX10_notch 10 rfl) rfl ?_
    refine g_iload_n (n := 19) hx 1 (dq tX10_notch 11 rfl) rfl rfl ?_
    refine g_iald (n := 20) (q := l.toNat) hx (aX10_13 (b := 229) (by decide)) (dq tX10_notch 12 rfl) rfl (by omega) (by omega) (by omega) rfl (fun h_11l h_11u => ?_)
    refine g_iconst (n := 21) hx (dq tX10_notch 13 rfl) rfl ?_
    refine g_isub (n := 22) hx (dq tX10_notch 14 rfl) rfl ?_
    refine g_i2l (n := 23) hx (dq tX10_notch 15 rfl) rfl ⟨by omega, by omega⟩ ?_
    refine g_callSi (n := 26) (As := [vL at_, vL 0, vL ((M (229 + 13) l.toNat) - 1)]) (rest := []) hx (ctX10_in Γ M at_ (by omega) (by omega) 0 (by omega) (by omega) ((M (229 + 13) l.toNat) - 1) (by omega) (by omega)) mlX10_191 (dq tX10_notch 16 rfl) rfl (Nat.le_of_ble_eq_true rfl) (Nat.le_of_ble_eq_true rfl) (Nat.le_of_ble_eq_true rfl) rfl (fun z_12 M_13 h_14 p_15 => ?_)
    obtain ⟨rfl, b_17, h_18⟩ := p_15
    refine g_if_eq (n := 29) (t := 43) hx (dq tX10_notch 17 rfl) (by decide) rfl h_14 (fun c_21 => ?_) (fun c_21 => ?_)
    · clear b_17
      refine g_iconst (n := 44) hx (dq tX10_notch 27 rfl) rfl ?_
      exact g_iret hx hr (dq tX10_notch 28 rfl) ⟨by decide, by decide⟩ rfl
    · have b_17 := b_17.resolve_left c_21
      obtain ⟨-, h_19, h_20⟩ := b_17
      refine g_aload_n (n := 30) hx 0 (dq tX10_notch 18 rfl) rfl rfl ?_
      refine g_getR (n := 33) hx glX10_61 (sX10_18 (by decide)) (dq tX10_notch 19 rfl) rfl ?_
      refine g_bipush (n := 35) hx (dq tX10_notch 20 rfl) rfl (by decide) ?_
      refine g_iload_n (n := 36) hx 1 (dq tX10_notch 21 rfl) rfl rfl ?_
      refine g_imul (n := 37) hx (dq tX10_notch 22 rfl) rfl ?_
      refine g_iload_n (n := 38) hx 2 (dq tX10_notch 23 rfl) rfl rfl ?_
      refine g_iadd (n := 39) hx (dq tX10_notch 24 rfl) rfl ?_
      refine g_iald (n := 40) (q := ((6 * l) + at_).toNat) hx (aX10_18 (b := 229) (by decide)) (dq tX10_notch 25 rfl) rfl (by omega) (by omega) (by omega) rfl (fun h_22l h_22u => ?_)
      refine g_goto (n := 44) hx (dq tX10_notch 26 rfl) (by decide) ?_
      exact g_iret hx hr (dq tX10_notch 28 rfl) (zrI h_22l h_22u (by decide) (by decide)) rfl
  · clear b_6
    refine g_bipush (n := 10) hx (dq tX10_notch 4 rfl) rfl (by decide) ?_
    exact g_iret hx hr (dq tX10_notch 5 rfl) ⟨by decide, by decide⟩ rfl

abbrev qctX10_mayCut (M : zM) (l : Int) (v : Int) (z : Int) (M' : zM) : Prop := M = M' ∧ (z = 0 ∨ (z = 1 ∧ 0 ≤ l ∧ l ≤ 11 ∧ l < M (229 + 1) 3 ∧ 0 ≤ v ∧ v ≤ 5 ∧ v < M (229 + 1) 1))
set_option maxHeartbeats 4000000 in
set_option maxRecDepth 100000 in
theorem ctX10_mayCut (Γ : Gam) (M : zM) (l : Int) (hll : (-2147483648) ≤ l) (hlu : l ≤ 2147483647) (v : Int) (hvl : (-2147483648) ≤ v) (hvu : v ≤ 2147483647) (gm : Gm M) : CtI Γ yX10_mayCut cX10_mayCut 3 (some .boolean) 2 46 [aR Γ 229, vI l, vI v] M (qctX10_mayCut M l v) := by
  refine met_i (by decide) (Nat.le_of_ble_eq_true rfl) (fun x hx hr => ?_)
  show G Γ x 3 (QI Γ x (qctX10_mayCut M l v)) M 0 [(0, aR Γ 229), (1, vI l), (2, vI v)] []
  refine g_aload_n (n := 1) hx 0 (dq tX10_mayCut 0 rfl) rfl rfl ?_
  refine g_iload_n (n := 2) hx 1 (dq tX10_mayCut 1 rfl) rfl rfl ?_
  refine g_callVi (n := 5) (As := [vI l]) (rest := []) hx (ctX10_isLog Γ M l (by omega) (by omega)) mlX10_483 (obX10 (by decide)) (dq tX10_mayCut 2 rfl) rfl (Nat.le_of_ble_eq_true rfl) (Nat.le_of_ble_eq_true rfl) (Nat.le_of_ble_eq_true rfl) rfl (fun z_1 M_2 h_3 p_4 => ?_)
  obtain ⟨rfl, b_6⟩ := p_4
  refine g_if_eq (n := 8) (t := 48) hx (dq tX10_mayCut 3 rfl) (by decide) rfl h_3 (fun c_10 => ?_) (fun c_10 => ?_)
  · clear b_6
    refine g_iconst (n := 49) hx (dq tX10_mayCut 27 rfl) rfl ?_
    exact g_zret hx hr (dq tX10_mayCut 28 rfl) (by omega) ⟨rfl, (by omega)⟩
  · have b_6 := b_6.resolve_left c_10
    obtain ⟨-, h_7, h_8, h_9⟩ := b_6
    refine g_aload_n (n := 9) hx 0 (dq tX10_mayCut 4 rfl) rfl rfl ?_
    refine g_iload_n (n := 10) hx 2 (dq tX10_mayCut 5 rfl) rfl rfl ?_
    refine g_callVi (n := 13) (As := [vI v]) (rest := []) hx (ctX10_isVillage Γ M v (by omega) (by omega)) mlX10_419 (obX10 (by decide)) (dq tX10_mayCut 6 rfl) rfl (Nat.le_of_ble_eq_true rfl) (Nat.le_of_ble_eq_true rfl) (Nat.le_of_ble_eq_true rfl) rfl (fun z_11 M_12 h_13 p_14 => ?_)
    obtain ⟨rfl, b_16⟩ := p_14
    refine g_if_eq (n := 16) (t := 48) hx (dq tX10_mayCut 7 rfl) (by decide) rfl h_13 (fun c_20 => ?_) (fun c_20 => ?_)
    · clear b_16
      refine g_iconst (n := 49) hx (dq tX10_mayCut 27 rfl) rfl ?_
      exact g_zret hx hr (dq tX10_mayCut 28 rfl) (by omega) ⟨rfl, (by omega)⟩
    · have b_16 := b_16.resolve_left c_20
      obtain ⟨-, h_17, h_18, h_19⟩ := b_16
      refine g_aload_n (n := 17) hx 0 (dq tX10_mayCut 8 rfl) rfl rfl ?_
      refine g_getR (n := 20) hx glX10_43 (sX10_12 (by decide)) (dq tX10_mayCut 9 rfl) rfl ?_
      refine g_iload_n (n := 21) hx 1 (dq tX10_mayCut 10 rfl) rfl rfl ?_
      refine g_iald (n := 22) (q := l.toNat) hx (aX10_12 (b := 229) (by decide)) (dq tX10_mayCut 11 rfl) rfl (by omega) (by omega) (by omega) rfl (fun h_21l h_21u => ?_)
      refine g_bipush (n := 24) hx (dq tX10_mayCut 12 rfl) rfl (by decide) ?_
      refine g_iload_n (n := 25) hx 2 (dq tX10_mayCut 13 rfl) rfl rfl ?_
      refine g_iadd (n := 26) hx (dq tX10_mayCut 14 rfl) rfl ?_
      refine g_icmp_eq (n := 29) (t := 44) hx (dq tX10_mayCut 15 rfl) (by decide) rfl (zrI h_21l h_21u (by decide) (by decide)) ⟨by omega, by omega⟩ (fun c_22 => ?_) (fun c_22 => ?_)
      · refine g_iconst (n := 45) hx (dq tX10_mayCut 25 rfl) rfl ?_
        refine g_goto (n := 49) hx (dq tX10_mayCut 26 rfl) (by decide) ?_
        exact g_zret hx hr (dq tX10_mayCut 28 rfl) (by omega) ⟨rfl, (by omega)⟩
      · refine g_aload_n (n := 30) hx 0 (dq tX10_mayCut 16 rfl) rfl rfl ?_
        refine g_getR (n := 33) hx glX10_43 (sX10_12 (by decide)) (dq tX10_mayCut 17 rfl) rfl ?_
        refine g_iload_n (n := 34) hx 1 (dq tX10_mayCut 18 rfl) rfl rfl ?_
        refine g_iald (n := 35) (q := l.toNat) hx (aX10_12 (b := 229) (by decide)) (dq tX10_mayCut 19 rfl) rfl (by omega) (by omega) (by omega) rfl (fun h_23l h_23u => ?_)
        refine g_aload_n (n := 36) hx 0 (dq tX10_mayCut 20 rfl) rfl rfl ?_
        refine g_getR (n := 39) hx glX10_22 (sX10_5 (by decide)) (dq tX10_mayCut 21 rfl) rfl ?_
        refine g_iload_n (n := 40) hx 2 (dq tX10_mayCut 22 rfl) rfl rfl ?_
        refine g_iald (n := 41) (q := v.toNat) hx (aX10_5 (b := 229) (by decide)) (dq tX10_mayCut 23 rfl) rfl (by omega) (by omega) (by omega) rfl (fun h_24l h_24u => ?_)
        refine g_icmp_ne (n := 44) (t := 48) hx (dq tX10_mayCut 24 rfl) (by decide) rfl (zrI h_23l h_23u (by decide) (by decide)) (zrI h_24l h_24u (by decide) (by decide)) (fun c_25 => ?_) (fun c_25 => ?_)
        · refine g_iconst (n := 49) hx (dq tX10_mayCut 27 rfl) rfl ?_
          exact g_zret hx hr (dq tX10_mayCut 28 rfl) (by omega) ⟨rfl, (by omega)⟩
        · refine g_iconst (n := 45) hx (dq tX10_mayCut 25 rfl) rfl ?_
          refine g_goto (n := 49) hx (dq tX10_mayCut 26 rfl) (by decide) ?_
          exact g_zret hx hr (dq tX10_mayCut 28 rfl) (by omega) ⟨rfl, (by omega)⟩
