abbrev qctX2_clear (M : zM) (t : Nat) (M' : zM) : Prop := (∀ u_ v_, (u_ ≠ t ∨ v_ ≠ 0) ∧ (u_ ≠ t ∨ v_ ≠ 1) ∧ (u_ ≠ t ∨ v_ ≠ 2) ∧ (u_ ≠ t ∨ v_ ≠ 3) ∧ (u_ ≠ t ∨ v_ ≠ 4) ∧ u_ ≠ t + 2 → M' u_ v_ = M u_ v_) ∧ (M' t 0 = 0) ∧ (M' t 1 = 0) ∧ (M' t 2 = 0) ∧ (M' t 3 = 0)
set_option maxHeartbeats 4000000 in
set_option maxRecDepth 100000 in
theorem ctX2_clear (Γ : Gam) (M : zM) (t : Nat) (ht : isX2 t)  : CtV Γ yX2_clear cX2_clear 1 none 1 23 [aR Γ t] M (qctX2_clear M t) := by
  refine met_v (by decide) (Nat.le_of_ble_eq_true rfl) (fun x hx hr => ?_)
  show G Γ x 1 (QV Γ x (qctX2_clear M t)) M 0 [(0, aR Γ t)] []
  refine g_aload_n (n := 1) hx 0 (dq tX2_clear 0 rfl) rfl rfl ?_
  refine g_iconst (n := 2) hx (dq tX2_clear 1 rfl) rfl ?_
  refine g_putI (n := 5) hx plX2_33 (sX2_0 ht) (dq tX2_clear 2 rfl) rfl (by omega) (by omega) (fun M_1 m_2e m_2 => ?_)
  refine g_aload_n (n := 6) hx 0 (dq tX2_clear 3 rfl) rfl rfl ?_
  refine g_iconst (n := 7) hx (dq tX2_clear 4 rfl) rfl ?_
  refine g_putI (n := 10) hx plX2_37 (sX2_1 ht) (dq tX2_clear 5 rfl) rfl (by omega) (by omega) (fun M_3 m_4e m_4 => ?_)
  refine g_aload_n (n := 11) hx 0 (dq tX2_clear 6 rfl) rfl rfl ?_
  refine g_iconst (n := 12) hx (dq tX2_clear 7 rfl) rfl ?_
  refine g_putI (n := 15) hx plX2_40 (sX2_2 ht) (dq tX2_clear 8 rfl) rfl (by omega) (by omega) (fun M_5 m_6e m_6 => ?_)
  refine g_aload_n (n := 16) hx 0 (dq tX2_clear 9 rfl) rfl rfl ?_
  refine g_iconst (n := 17) hx (dq tX2_clear 10 rfl) rfl ?_
  refine g_putI (n := 20) hx plX2_43 (sX2_3 ht) (dq tX2_clear 11 rfl) rfl (by omega) (by omega) (fun M_7 m_8e m_8 => ?_)
  refine g_aload_n (n := 21) hx 0 (dq tX2_clear 12 rfl) rfl rfl ?_
  refine g_iconst (n := 22) hx (dq tX2_clear 13 rfl) rfl ?_
  refine g_putI (n := 25) hx plX2_46 (sX2_4 ht) (dq tX2_clear 14 rfl) rfl (by omega) (by omega) (fun M_9 m_10e m_10 => ?_)
  refine g_aload_n (n := 26) hx 0 (dq tX2_clear 15 rfl) rfl rfl ?_
  refine g_getR (n := 29) hx glX2_15 (sX2_6 ht) (dq tX2_clear 16 rfl) rfl ?_
  refine g_bipush (n := 31) hx (dq tX2_clear 17 rfl) rfl (by decide) ?_
  refine g_callSv (n := 34) (As := [aR Γ (t + 2), vI 9]) (rest := []) hx (ctfill_9_9 Γ M_9 (t + 2) (aX2_6 (b := t) ht) 9 (by decide) (by decide)) mlX2_49 (dq tX2_clear 18 rfl) rfl (Nat.le_of_ble_eq_true rfl) (Nat.le_of_ble_eq_true rfl) (Nat.le_of_ble_eq_true rfl) rfl (fun M_12 p_14 => ?_)
  have f_15 := p_14
  exact g_vret hx hr (dq tX2_clear 19 rfl) ⟨(fun u_ v_ huv_ => ((((((f_15 u_ v_ (by omega)).trans (m_10 u_ v_ (by omega))).trans (m_8 u_ v_ (by omega))).trans (m_6 u_ v_ (by omega))).trans (m_4 u_ v_ (by omega))).trans (m_2 u_ v_ (by omega)))), (((((((f_15 t 0 (by omega)).trans (m_10 t 0 (by omega))).trans (m_8 t 0 (by omega))).trans (m_6 t 0 (by omega))).trans (m_4 t 0 (by omega)))).trans m_2e), ((((((f_15 t 1 (by omega)).trans (m_10 t 1 (by omega))).trans (m_8 t 1 (by omega))).trans (m_6 t 1 (by omega)))).trans m_4e), (((((f_15 t 2 (by omega)).trans (m_10 t 2 (by omega))).trans (m_8 t 2 (by omega)))).trans m_6e), ((((f_15 t 3 (by omega)).trans (m_10 t 3 (by omega)))).trans m_8e)⟩

abbrev qctX6_start (M : zM) (s : Nat) (t : Nat) (M' : zM) : Prop := (∀ u_ v_, (u_ < s ∨ s + 10 ≤ u_) → M' u_ v_ = M u_ v_) ∧ (Gd M' t s)
set_option maxHeartbeats 4000000 in
set_option maxRecDepth 100000 in
theorem ctX6_start (Γ : Gam) (M : zM) (s : Nat) (hs : isX6 s) (t : Nat) (ht : isX2 t) (pre0 : t + 8 ≤ s) (ex0 : RvOk M t) : CtV Γ yX6_start cX6_start 3 none 2 81 [aR Γ s, aR Γ t] M (qctX6_start M s t) := by
  refine met_v (by decide) (Nat.le_of_ble_eq_true rfl) (fun x hx hr => ?_)
  show G Γ x 3 (QV Γ x (qctX6_start M s t)) M 0 [(0, aR Γ s), (1, aR Γ t)] []
  refine g_aload_n (n := 1) hx 0 (dq tX6_start 0 rfl) rfl rfl ?_
  refine g_iconst (n := 2) hx (dq tX6_start 1 rfl) rfl ?_
  refine g_putI (n := 5) hx plX6_43 (sX6_0 hs) (dq tX6_start 2 rfl) rfl (by omega) (by omega) (fun M_1 m_2e m_2 => ?_)
  refine g_aload_n (n := 6) hx 0 (dq tX6_start 3 rfl) rfl rfl ?_
  refine g_bipush (n := 8) hx (dq tX6_start 4 rfl) rfl (by decide) ?_
  refine g_putI (n := 11) hx plX6_46 (sX6_1 hs) (dq tX6_start 5 rfl) rfl (by omega) (by omega) (fun M_3 m_4e m_4 => ?_)
  refine g_aload_n (n := 12) hx 0 (dq tX6_start 6 rfl) rfl rfl ?_
  refine g_iconst (n := 13) hx (dq tX6_start 7 rfl) rfl ?_
  refine g_putI (n := 16) hx plX6_9 (sX6_2 hs) (dq tX6_start 8 rfl) rfl (by omega) (by omega) (fun M_5 m_6e m_6 => ?_)
  refine g_aload_n (n := 17) hx 0 (dq tX6_start 9 rfl) rfl rfl ?_
  refine g_iconst (n := 18) hx (dq tX6_start 10 rfl) rfl ?_
  refine g_putI (n := 21) hx plX6_49 (sX6_3 hs) (dq tX6_start 11 rfl) rfl (by omega) (by omega) (fun M_7 m_8e m_8 => ?_)
  refine g_aload_n (n := 22) hx 0 (dq tX6_start 12 rfl) rfl rfl ?_
  refine g_iconst (n := 23) hx (dq tX6_start 13 rfl) rfl ?_
  refine g_putI (n := 26) hx plX6_52 (sX6_4 hs) (dq tX6_start 14 rfl) rfl (by omega) (by omega) (fun M_9 m_10e m_10 => ?_)
  refine g_aload_n (n := 27) hx 0 (dq tX6_start 15 rfl) rfl rfl ?_
  refine g_aload_n (n := 28) hx 1 (dq tX6_start 16 rfl) rfl rfl ?_
  refine g_getI (n := 31) hx glX6_55 (sX2_3 ht) (dq tX6_start 17 rfl) rfl (fun h_11l h_11u => ?_)
  have e_12 : M_9 t 3 = M t 3 := (((((m_10 t 3 (by omega))).trans (m_8 t 3 (by omega))).trans (m_6 t 3 (by omega))).trans (m_4 t 3 (by omega))).trans (m_2 t 3 (by omega))
  refine g_putI (n := 34) hx plX6_60 (sX6_5 hs) (dq tX6_start 18 rfl) rfl (by omega) (by omega) (fun M_13 m_14e m_14 => ?_)
  refine g_aload_n (n := 35) hx 0 (dq tX6_start 19 rfl) rfl rfl ?_
  refine g_getR (n := 38) hx glX6_15 (sX6_6 hs) (dq tX6_start 20 rfl) rfl ?_
  refine g_iconst (n := 39) hx (dq tX6_start 21 rfl) rfl ?_
  have e_15 : M_13 t 1 = M t 1 := ((((((m_14 t 1 (by omega))).trans (m_10 t 1 (by omega))).trans (m_8 t 1 (by omega))).trans (m_6 t 1 (by omega))).trans (m_4 t 1 (by omega))).trans (m_2 t 1 (by omega))
  have e_16 : M_13 t 3 = M_9 t 3 := (m_14 t 3 (by omega))
  refine g_callSv (n := 42) (As := [aR Γ (s + 1), vI (-1)]) (rest := []) hx (ctfill_6_5 Γ M_13 (s + 1) (aX6_6 (b := s) hs) (-1) (by decide) (by decide)) mlX6_61 (dq tX6_start 22 rfl) rfl (Nat.le_of_ble_eq_true rfl) (Nat.le_of_ble_eq_true rfl) (Nat.le_of_ble_eq_true rfl) rfl (fun M_18 p_20 => ?_)
  have f_21 := p_20
  refine g_aload_n (n := 43) hx 0 (dq tX6_start 23 rfl) rfl rfl ?_
  refine g_getR (n := 46) hx glX6_19 (sX6_7 hs) (dq tX6_start 24 rfl) rfl ?_
  refine g_iconst (n := 47) hx (dq tX6_start 25 rfl) rfl ?_
  have e_22 : M_18 t 1 = M_13 t 1 := (f_21 t 1 (by omega))
  have e_23 : M_18 t 3 = M_13 t 3 := (f_21 t 3 (by omega))
  refine g_callSv (n := 50) (As := [aR Γ (s + 2), vI 0]) (rest := []) hx (ctfill_9_0 Γ M_18 (s + 2) (aX6_7 (b := s) hs) 0 (by decide) (by decide)) mlX6_61 (dq tX6_start 26 rfl) rfl (Nat.le_of_ble_eq_true rfl) (Nat.le_of_ble_eq_true rfl) (Nat.le_of_ble_eq_true rfl) rfl (fun M_25 p_27 => ?_)
  have f_28 := p_27
  refine g_aload_n (n := 51) hx 0 (dq tX6_start 27 rfl) rfl rfl ?_
  refine g_getR (n := 54) hx glX6_28 (sX6_10 hs) (dq tX6_start 28 rfl) rfl ?_
  refine g_iconst (n := 55) hx (dq tX6_start 29 rfl) rfl ?_
  have e_29 : M_25 t 1 = M_18 t 1 := (f_28 t 1 (by omega))
  have e_30 : M_25 t 3 = M_18 t 3 := (f_28 t 3 (by omega))
  refine g_callSv (n := 58) (As := [aR Γ (s + 5), vI 0]) (rest := []) hx (ctfill_12_0 Γ M_25 (s + 5) (aX6_10 (b := s) hs) 0 (by decide) (by decide)) mlX6_61 (dq tX6_start 30 rfl) rfl (Nat.le_of_ble_eq_true rfl) (Nat.le_of_ble_eq_true rfl) (Nat.le_of_ble_eq_true rfl) rfl (fun M_32 p_34 => ?_)
  have f_35 := p_34
  refine g_aload_n (n := 59) hx 0 (dq tX6_start 31 rfl) rfl rfl ?_
  refine g_getR (n := 62) hx glX6_31 (sX6_11 hs) (dq tX6_start 32 rfl) rfl ?_
  refine g_iconst (n := 63) hx (dq tX6_start 33 rfl) rfl ?_
  have e_36 : M_32 t 1 = M_25 t 1 := (f_35 t 1 (by omega))
  have e_37 : M_32 t 3 = M_25 t 3 := (f_35 t 3 (by omega))
  refine g_callSv (n := 66) (As := [aR Γ (s + 6), vI 0]) (rest := []) hx (ctfill_12_0 Γ M_32 (s + 6) (aX6_11 (b := s) hs) 0 (by decide) (by decide)) mlX6_61 (dq tX6_start 34 rfl) rfl (Nat.le_of_ble_eq_true rfl) (Nat.le_of_ble_eq_true rfl) (Nat.le_of_ble_eq_true rfl) rfl (fun M_39 p_41 => ?_)
  have f_42 := p_41
  refine g_aload_n (n := 67) hx 1 (dq tX6_start 35 rfl) rfl rfl ?_
  refine g_getR (n := 70) hx glX6_67 (sX2_9 ht) (dq tX6_start 36 rfl) rfl ?_
  refine g_aload_n (n := 71) hx 0 (dq tX6_start 37 rfl) rfl rfl ?_
  refine g_getR (n := 74) hx glX6_25 (sX6_9 hs) (dq tX6_start 38 rfl) rfl ?_
  have e_43 : M_39 t 1 = M_32 t 1 := (f_42 t 1 (by omega))
  have e_44 : M_39 t 3 = M_32 t 3 := (f_42 t 3 (by omega))
  refine g_callNv (n := 77) (As := [aR Γ (t + 5), aR Γ (s + 4)]) (rest := []) hx (ctX9_copyRow Γ M_39 (t + 5) (s + 4) 12 (aX2_9 (b := t) ht) (aX6_9 (b := s) hs) (by decide) (by decide) (by decide)) mlX6_70 (dq tX6_start 39 rfl) rfl (Nat.le_of_ble_eq_true rfl) (Nat.le_of_ble_eq_true rfl) (Nat.le_of_ble_eq_true rfl) rfl (fun M_46 p_48 => ?_)
  obtain ⟨f_49, e_50⟩ := p_48
  refine g_iconst (n := 78) hx (dq tX6_start 40 rfl) rfl ?_
  refine g_istore_n (n := 79) (lv' := [(2, vI 0), (0, aR Γ s), (1, aR Γ t)]) hx (dq tX6_start 41 rfl) (by decide) rfl rfl ?_
  have L_53 : ∀ (n_ : Nat) (i_51 : Int) (M_52 : zM), (0 ≤ i_51) → (i_51 ≤ 12) → (∀ u_ v_, u_ ≠ s + 8 ∧ u_ ≠ s + 9 ∧ u_ ≠ s + 7 ∧ u_ ≠ s + 3 → M_52 u_ v_ = M_46 u_ v_) → (∀ l : Nat, (l : Int) < i_51 → (M_52 (s + 3) l = 20 + M (t + 7) l ∧ M_52 (s + 7) l = l)) → ((12 - i_51).toNat = n_) → G Γ x 3 (QV Γ x (qctX6_start M s t)) M_52 79 [(2, vI i_51), (0, aR Γ s), (1, aR Γ t)] [] := by
    intro n_
    induction n_ using Nat.strongRecOn with
    | _ n_ ih_54 =>
      intro i_51 M_52 h_58 h_59 f_55 h_57 hm_56
      refine g_iload_n (n := 80) hx 0 (dq tX6_start 42 rfl) rfl rfl ?_
      refine g_aload_n (n := 81) hx 1 (dq tX6_start 43 rfl) rfl rfl ?_
      refine g_getI (n := 84) hx glX6_60 (sX6_5 hs) (dq tX6_start 44 rfl) rfl (fun h_60l h_60u => ?_)
      have e_61 : M_52 s 5 = M_13 s 5 := ((((((f_55 s 5 (by omega))).trans (f_49 s 5 (by omega))).trans (f_42 s 5 (by omega))).trans (f_35 s 5 (by omega))).trans (f_28 s 5 (by omega))).trans (f_21 s 5 (by omega))
      refine g_icmp_ge (n := 87) (t := 133) hx (dq tX6_start 45 rfl) (by decide) rfl ⟨by omega, by omega⟩ (zrI h_60l h_60u (by decide) (by decide)) (fun c_62 => ?_) (fun c_62 => ?_)
      · exact g_vret hx hr (dq tX6_start 75 rfl) ⟨(fun u_ v_ huv_ => ((((((((((((f_55 u_ v_ (by omega)).trans (f_49 u_ v_ (by omega))).trans (f_42 u_ v_ (by omega))).trans (f_35 u_ v_ (by omega))).trans (f_28 u_ v_ (by omega))).trans (f_21 u_ v_ (by omega))).trans (m_14 u_ v_ (by omega))).trans (m_10 u_ v_ (by omega))).trans (m_8 u_ v_ (by omega))).trans (m_6 u_ v_ (by omega))).trans (m_4 u_ v_ (by omega))).trans (m_2 u_ v_ (by omega)))), Gd.start ex0 ((((((((((((f_55 t 1 (by omega)).trans (f_49 t 1 (by omega))).trans (f_42 t 1 (by omega))).trans (f_35 t 1 (by omega))).trans (f_28 t 1 (by omega))).trans (f_21 t 1 (by omega))).trans (m_14 t 1 (by omega))).trans (m_10 t 1 (by omega))).trans (m_8 t 1 (by omega))).trans (m_6 t 1 (by omega))).trans (m_4 t 1 (by omega))).trans (m_2 t 1 (by omega))) ((((((((((((f_55 t 3 (by omega)).trans (f_49 t 3 (by omega))).trans (f_42 t 3 (by omega))).trans (f_35 t 3 (by omega))).trans (f_28 t 3 (by omega))).trans (f_21 t 3 (by omega))).trans (m_14 t 3 (by omega))).trans (m_10 t 3 (by omega))).trans (m_8 t 3 (by omega))).trans (m_6 t 3 (by omega))).trans (m_4 t 3 (by omega))).trans (m_2 t 3 (by omega))) (fun j => ((((((((((((f_55 (t + 1) j (by omega)).trans (f_49 (t + 1) j (by omega))).trans (f_42 (t + 1) j (by omega))).trans (f_35 (t + 1) j (by omega))).trans (f_28 (t + 1) j (by omega))).trans (f_21 (t + 1) j (by omega))).trans (m_14 (t + 1) j (by omega))).trans (m_10 (t + 1) j (by omega))).trans (m_8 (t + 1) j (by omega))).trans (m_6 (t + 1) j (by omega))).trans (m_4 (t + 1) j (by omega))).trans (m_2 (t + 1) j (by omega)))) (fun j => ((((((((((((f_55 (t + 4) j (by omega)).trans (f_49 (t + 4) j (by omega))).trans (f_42 (t + 4) j (by omega))).trans (f_35 (t + 4) j (by omega))).trans (f_28 (t + 4) j (by omega))).trans (f_21 (t + 4) j (by omega))).trans (m_14 (t + 4) j (by omega))).trans (m_10 (t + 4) j (by omega))).trans (m_8 (t + 4) j (by omega))).trans (m_6 (t + 4) j (by omega))).trans (m_4 (t + 4) j (by omega))).trans (m_2 (t + 4) j (by omega)))) (by have q0 := ((((((f_55 s 5 (by omega)).trans (f_49 s 5 (by omega))).trans (f_42 s 5 (by omega))).trans (f_35 s 5 (by omega))).trans (f_28 s 5 (by omega))).trans (f_21 s 5 (by omega))); have q1 := m_14e; have q2 := ((((((m_10 t 3 (by omega)).trans (m_8 t 3 (by omega))).trans (m_6 t 3 (by omega))).trans (m_4 t 3 (by omega))).trans (m_2 t 3 (by omega))) : M_9 t 3 = M t 3); omega) (fun l hl => by have q0 := h_57 l (by omega); omega)⟩
      · refine g_aload_n (n := 88) hx 1 (dq tX6_start 46 rfl) rfl rfl ?_
        refine g_getR (n := 91) hx glX6_22 (sX6_8 hs) (dq tX6_start 47 rfl) rfl ?_
        refine g_iload_n (n := 92) hx 0 (dq tX6_start 48 rfl) rfl rfl ?_
        refine g_bipush (n := 94) hx (dq tX6_start 49 rfl) rfl (by decide) ?_
        refine g_aload_n (n := 95) hx 2 (dq tX6_start 50 rfl) rfl rfl ?_
        refine g_getR (n := 98) hx glX6_74 (sX2_11 ht) (dq tX6_start 51 rfl) rfl ?_
        refine g_iload_n (n := 99) hx 0 (dq tX6_start 52 rfl) rfl rfl ?_
        refine g_iald (n := 100) (q := i_51.toNat) hx (aX2_11 (b := t) ht) (dq tX6_start 53 rfl) rfl (by omega) (by omega) (by omega) rfl (fun h_63l h_63u => ?_)
        have e_64 : M_52 t 1 = M_39 t 1 := ((f_55 t 1 (by omega))).trans (f_49 t 1 (by omega))
        have e_65 : M_52 t 3 = M_39 t 3 := ((f_55 t 3 (by omega))).trans (f_49 t 3 (by omega))
        have h_66 := ex0.2.2 i_51.toNat (by omega)
        have h_66e : M_52 (t + 7) i_51.toNat = M (t + 7) i_51.toNat := ((((((((((((f_55 (t + 7) i_51.toNat (by omega)).trans (f_49 (t + 7) i_51.toNat (by omega))).trans (f_42 (t + 7) i_51.toNat (by omega))).trans (f_35 (t + 7) i_51.toNat (by omega))).trans (f_28 (t + 7) i_51.toNat (by omega))).trans (f_21 (t + 7) i_51.toNat (by omega))).trans (m_14 (t + 7) i_51.toNat (by omega))).trans (m_10 (t + 7) i_51.toNat (by omega))).trans (m_8 (t + 7) i_51.toNat (by omega))).trans (m_6 (t + 7) i_51.toNat (by omega))).trans (m_4 (t + 7) i_51.toNat (by omega))).trans (m_2 (t + 7) i_51.toNat (by omega)))
        refine g_iadd (n := 101) hx (dq tX6_start 54 rfl) rfl ?_
        refine g_iast (n := 102) (q := i_51.toNat) hx (aX6_8 (b := s) hs) (dq tX6_start 55 rfl) rfl (by omega) (by omega) (by omega) rfl (by omega) (by omega) (fun M_67 m_68e m_68 => ?_)
        refine g_aload_n (n := 103) hx 1 (dq tX6_start 56 rfl) rfl rfl ?_
        refine g_getR (n := 106) hx glX6_34 (sX6_12 hs) (dq tX6_start 57 rfl) rfl ?_
        refine g_iload_n (n := 107) hx 0 (dq tX6_start 58 rfl) rfl rfl ?_
        refine g_iload_n (n := 108) hx 0 (dq tX6_start 59 rfl) rfl rfl ?_
        have e_69 : M_67 t 1 = M_52 t 1 := (m_68 t 1 (by omega))
        have e_70 : M_67 t 3 = M_52 t 3 := (m_68 t 3 (by omega))
        refine g_iast (n := 109) (q := i_51.toNat) hx (aX6_12 (b := s) hs) (dq tX6_start 60 rfl) rfl (by omega) (by omega) (by omega) rfl (by omega) (by omega) (fun M_71 m_72e m_72 => ?_)
        refine g_aload_n (n := 110) hx 1 (dq tX6_start 61 rfl) rfl rfl ?_
        refine g_getR (n := 113) hx glX6_37 (sX6_13 hs) (dq tX6_start 62 rfl) rfl ?_
        refine g_iload_n (n := 114) hx 0 (dq tX6_start 63 rfl) rfl rfl ?_
        refine g_iconst (n := 115) hx (dq tX6_start 64 rfl) rfl ?_
        refine g_iast (n := 116) (q := i_51.toNat) hx (aX6_13 (b := s) hs) (dq tX6_start 65 rfl) rfl (by omega) (by omega) (by omega) rfl (by omega) (by omega) (fun M_73 m_74e m_74 => ?_)
        refine g_aload_n (n := 117) hx 1 (dq tX6_start 66 rfl) rfl rfl ?_
        refine g_iload_n (n := 118) hx 0 (dq tX6_start 67 rfl) rfl rfl ?_
        refine g_aload_n (n := 119) hx 2 (dq tX6_start 68 rfl) rfl rfl ?_
        refine g_getR (n := 122) hx glX6_74 (sX2_11 ht) (dq tX6_start 69 rfl) rfl ?_
        refine g_iload_n (n := 123) hx 0 (dq tX6_start 70 rfl) rfl rfl ?_
        refine g_iald (n := 124) (q := i_51.toNat) hx (aX2_11 (b := t) ht) (dq tX6_start 71 rfl) rfl (by omega) (by omega) (by omega) rfl (fun h_75l h_75u => ?_)
        have e_76 : M_73 t 1 = M_67 t 1 := ((m_74 t 1 (by omega))).trans (m_72 t 1 (by omega))
        have e_77 : M_73 t 3 = M_67 t 3 := ((m_74 t 3 (by omega))).trans (m_72 t 3 (by omega))
        have h_78 := ex0.2.2 i_51.toNat (by omega)
        have h_78e : M_73 (t + 7) i_51.toNat = M (t + 7) i_51.toNat := (((((((((((((((m_74 (t + 7) i_51.toNat (by omega)).trans (m_72 (t + 7) i_51.toNat (by omega))).trans (m_68 (t + 7) i_51.toNat (by omega))).trans (f_55 (t + 7) i_51.toNat (by omega))).trans (f_49 (t + 7) i_51.toNat (by omega))).trans (f_42 (t + 7) i_51.toNat (by omega))).trans (f_35 (t + 7) i_51.toNat (by omega))).trans (f_28 (t + 7) i_51.toNat (by omega))).trans (f_21 (t + 7) i_51.toNat (by omega))).trans (m_14 (t + 7) i_51.toNat (by omega))).trans (m_10 (t + 7) i_51.toNat (by omega))).trans (m_8 (t + 7) i_51.toNat (by omega))).trans (m_6 (t + 7) i_51.toNat (by omega))).trans (m_4 (t + 7) i_51.toNat (by omega))).trans (m_2 (t + 7) i_51.toNat (by omega)))
        refine g_callVv (n := 127) (As := [vI i_51, vI (M_73 (t + 7) i_51.toNat)]) (rest := []) hx (ctX6_notchBehind Γ M_73 s hs i_51 (by omega) (by omega) (M_73 (t + 7) i_51.toNat) (by omega) (by omega)) mlX6_77 (obX6 hs) (dq tX6_start 72 rfl) rfl (Nat.le_of_ble_eq_true rfl) (Nat.le_of_ble_eq_true rfl) (Nat.le_of_ble_eq_true rfl) rfl (fun M_80 p_82 => ?_)
        have f_83 := p_82
        refine g_iinc (n := 130) (lv' := [(2, vI (i_51 + 1)), (0, aR Γ s), (1, aR Γ t)]) hx 0 (dq tX6_start 73 rfl) rfl (by decide) rfl rfl ?_
        refine g_goto (n := 79) hx (dq tX6_start 74 rfl) (by decide) ?_
        exact ih_54 _ (by omega) (i_51 + 1) M_80 (by omega) (by omega) (fun u_ v_ huv_ => (((((f_83 u_ v_ (by omega)).trans (m_74 u_ v_ (by omega))).trans (m_72 u_ v_ (by omega))).trans (m_68 u_ v_ (by omega))).trans (f_55 u_ v_ (by omega)))) (fun l hl => by
                  by_cases hq : l = i_51.toNat
                  · subst hq
                    have q1 := ((((f_83 (s + 3) i_51.toNat (by omega)).trans (m_74 (s + 3) i_51.toNat (by omega))).trans (m_72 (s + 3) i_51.toNat (by omega)))).trans m_68e
                    have q2 := (((f_83 (s + 7) i_51.toNat (by omega)).trans (m_74 (s + 7) i_51.toNat (by omega)))).trans m_72e
                    have q3 := (((((((((((((f_55 (t + 7) i_51.toNat (by omega)).trans (f_49 (t + 7) i_51.toNat (by omega))).trans (f_42 (t + 7) i_51.toNat (by omega))).trans (f_35 (t + 7) i_51.toNat (by omega))).trans (f_28 (t + 7) i_51.toNat (by omega))).trans (f_21 (t + 7) i_51.toNat (by omega))).trans (m_14 (t + 7) i_51.toNat (by omega))).trans (m_10 (t + 7) i_51.toNat (by omega))).trans (m_8 (t + 7) i_51.toNat (by omega))).trans (m_6 (t + 7) i_51.toNat (by omega))).trans (m_4 (t + 7) i_51.toNat (by omega))).trans (m_2 (t + 7) i_51.toNat (by omega))) : M_52 (t + 7) i_51.toNat = M (t + 7) i_51.toNat)
                    omega
                  · have q0 := h_57 l (by omega)
                    have q1 := (((((f_83 (s + 3) l (by omega)).trans (m_74 (s + 3) l (by omega))).trans (m_72 (s + 3) l (by omega))).trans (m_68 (s + 3) l (by omega))) : M_80 (s + 3) l = M_52 (s + 3) l)
                    have q2 := (((((f_83 (s + 7) l (by omega)).trans (m_74 (s + 7) l (by omega))).trans (m_72 (s + 7) l (by omega))).trans (m_68 (s + 7) l (by omega))) : M_80 (s + 7) l = M_52 (s + 7) l)
                    omega) rfl
  exact L_53 _ 0 M_46 (by omega) (by omega) (fun _ _ _ => rfl) (fun l hl => absurd hl (by omega)) rfl
