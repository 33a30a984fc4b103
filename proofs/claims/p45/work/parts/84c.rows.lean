abbrev qctfillE (M : zM) (a : Nat) (v : Int) (M' : zM) : Prop := (∀ u_ v_, u_ ≠ a → M' u_ v_ = M u_ v_) ∧ (∀ j : Nat, j < 6 → M' a j = v)
set_option maxHeartbeats 4000000 in
set_option maxRecDepth 100000 in
theorem ctfillE (Γ : Gam) (M : zM) (a : Nat) (ha : AI a 6 (-1) 5) (v : Int) (hvl : (-1) ≤ v) (hvu : v ≤ 5)  : CtV Γ yJ7_fill_53178 cJ7_fill_53178 4 none 0 0 [aR Γ a, vI v] M (qctfillE M a v) := by
  refine met_v (by decide) (Nat.le_of_ble_eq_true rfl) (fun x hx hr => ?_)
  show G Γ x 4 (QV Γ x (qctfillE M a v)) M 0 [(0, aR Γ a), (1, vI v)] []
  refine g_iconst (n := 1) hx (dq tJ7_fill_53178 0 rfl) rfl ?_
  refine g_istore_n (n := 2) (lv' := [(2, vI 0), (0, aR Γ a), (1, vI v)]) hx (dq tJ7_fill_53178 1 rfl) (by decide) rfl rfl ?_
  refine g_aload_n (n := 3) hx 1 (dq tJ7_fill_53178 2 rfl) rfl rfl ?_
  refine g_alen (n := 4) hx (akI ha) (dq tJ7_fill_53178 3 rfl) rfl ?_
  refine g_istore_n (n := 5) (lv' := [(3, vI 6), (2, vI 0), (0, aR Γ a), (1, vI v)]) hx (dq tJ7_fill_53178 4 rfl) (by decide) rfl rfl ?_
  have L_3 : ∀ (n_ : Nat) (i_1 : Int) (M_2 : zM), (0 ≤ i_1) → (i_1 ≤ 6) → (∀ u_ v_, u_ ≠ a → M_2 u_ v_ = M u_ v_) → (Fl9 M_2 a v i_1) → ((6 - i_1).toNat = n_) → G Γ x 4 (QV Γ x (qctfillE M a v)) M_2 5 [(3, vI 6), (2, vI i_1), (0, aR Γ a), (1, vI v)] [] := by
    intro n_
    induction n_ using Nat.strongRecOn with
    | _ n_ ih_4 =>
      intro i_1 M_2 h_8 h_9 f_5 h_7 hm_6
      refine g_iload_n (n := 6) hx 1 (dq tJ7_fill_53178 5 rfl) rfl rfl ?_
      refine g_iload_n (n := 7) hx 0 (dq tJ7_fill_53178 6 rfl) rfl rfl ?_
      refine g_icmp_ge (n := 10) (t := 20) hx (dq tJ7_fill_53178 7 rfl) (by decide) rfl ⟨by omega, by omega⟩ ⟨by decide, by decide⟩ (fun c_10 => ?_) (fun c_10 => ?_)
      · exact g_vret hx hr (dq tJ7_fill_53178 14 rfl) ⟨(fun u_ v_ huv_ => (f_5 u_ v_ (by omega))), (fun j hj => h_7 j (by omega))⟩
      · refine g_aload_n (n := 11) hx 2 (dq tJ7_fill_53178 8 rfl) rfl rfl ?_
        refine g_iload_n (n := 12) hx 1 (dq tJ7_fill_53178 9 rfl) rfl rfl ?_
        refine g_iload_n (n := 13) hx 3 (dq tJ7_fill_53178 10 rfl) rfl rfl ?_
        refine g_iast (n := 14) (q := i_1.toNat) hx ha (dq tJ7_fill_53178 11 rfl) rfl (by omega) (by omega) (by omega) rfl (by omega) (by omega) (fun M_11 m_12e m_12 => ?_)
        refine g_iinc (n := 17) (lv' := [(2, vI (i_1 + 1)), (3, vI 6), (0, aR Γ a), (1, vI v)]) hx 1 (dq tJ7_fill_53178 12 rfl) rfl (by decide) rfl rfl ?_
        refine g_goto (n := 5) hx (dq tJ7_fill_53178 13 rfl) (by decide) ?_
        refine g_lv [1, 0, 2, 3] rfl ?_
        exact ih_4 _ (by omega) (i_1 + 1) M_11 (by omega) (by omega) (fun u_ v_ huv_ => ((m_12 u_ v_ (by omega)).trans (f_5 u_ v_ (by omega)))) (Fl9.go (m := i_1.toNat) h_7 (by omega) m_12e m_12 (by omega)) rfl
  exact L_3 _ 0 M (by omega) (by omega) (fun _ _ _ => rfl) (Fl9.nil (by omega)) rfl

abbrev qctX6_start2 (M : zM) (s : Nat) (t : Nat) (M' : zM) : Prop := (∀ u_ v_, (u_ < s ∨ s + 10 ≤ u_) → M' u_ v_ = M u_ v_) ∧ (Gd M' t s) ∧ (M' s 0 = 0) ∧ (M' s 1 = 50) ∧ (M' s 2 = -1) ∧ (M' s 3 = 0) ∧ (∀ j : Nat, j < 6 → M' (s + 1) j = -1)
set_option maxHeartbeats 4000000 in
set_option maxRecDepth 100000 in
theorem ctX6_start2 (Γ : Gam) (M : zM) (s : Nat) (hs : isX6 s) (t : Nat) (ht : isX2 t) (pre0 : t + 8 ≤ s) (ex0 : RvOk M t) : CtV Γ yX6_start cX6_start 3 none 2 81 [aR Γ s, aR Γ t] M (qctX6_start2 M s t) := by
  refine met_v (by decide) (Nat.le_of_ble_eq_true rfl) (fun x hx hr => ?_)
  show G Γ x 3 (QV Γ x (qctX6_start2 M s t)) M 0 [(0, aR Γ s), (1, aR Γ t)] []
  refine g_aload_n (n := 1) hx 0 (dq tX6_start 0 rfl) rfl rfl ?_
  refine g_iconst (n := 2) hx (dq tX6_start 1 rfl) rfl ?_
  refine g_putI (n := 5) hx plX6_43 (sX6_0 hs) (dq tX6_start 2 rfl) rfl (by omega) (by omega) (fun M_1 m_2e m_2 => ?_)
  refine g_aload_n (n := 6) hx 0 (dq tX6_start 3 rfl) rfl rfl ?_
  refine g_bipush (n := 8) hx (dq tX6_start 4 rfl) rfl (by decide) ?_
  refine g_putI (n := 11) hx plX6_46 (sX6_1 hs) (dq tX6_start 5 rfl) rfl (by omega) (by omega) (fun M_3 m_4e m_4 => ?_)
  refine g_aload_n (n := 12) hx 0 (dq tX6_start 6 rfl) rfl rfl ?_
  refine g_iconst (n := 13) hx (dq tX6_start 7 rfl) rfl ?_
  refine g_putI (n := 16) hx plX6_9 (sX6_2 hs) (dq tX6_start 8 rfl) rfl (by omega) (by omega) (fun M_5 m_6e m_6 => ?_)
  refine g_aload_n (n := 17) hx 0 (dq tX6_start 9 rfl) rfl rfl ?_
  refine g_iconst (n := 18) hx (dq tX6_start 10 rfl) rfl ?_
  refine g_putI (n := 21) hx plX6_49 (sX6_3 hs) (dq tX6_start 11 rfl) rfl (by omega) (by omega) (fun M_7 m_8e m_8 => ?_)
  refine g_aload_n (n := 22) hx 0 (dq tX6_start 12 rfl) rfl rfl ?_
  refine g_iconst (n := 23) hx (dq tX6_start 13 rfl) rfl ?_
  refine g_putI (n := 26) hx plX6_52 (sX6_4 hs) (dq tX6_start 14 rfl) rfl (by omega) (by omega) (fun M_9 m_10e m_10 => ?_)
  refine g_aload_n (n := 27) hx 0 (dq tX6_start 15 rfl) rfl rfl ?_
  refine g_aload_n (n := 28) hx 1 (dq tX6_start 16 rfl) rfl rfl ?_
  refine g_getI (n := 31) hx glX6_55 (sX2_3 ht) (dq tX6_start 17 rfl) rfl (fun h_11l h_11u => ?_)
  have e_12 : M_9 t 3 = M t 3 := (((((m_10 t 3 (by omega))).trans (m_8 t 3 (by omega))).trans (m_6 t 3 (by omega))).trans (m_4 t 3 (by omega))).trans (m_2 t 3 (by omega))
  refine g_putI (n := 34) hx plX6_60 (sX6_5 hs) (dq tX6_start 18 rfl) rfl (by omega) (by omega) (fun M_13 m_14e m_14 => ?_)
  refine g_aload_n (n := 35) hx 0 (dq tX6_start 19 rfl) rfl rfl ?_
  refine g_getR (n := 38) hx glX6_15 (sX6_6 hs) (dq tX6_start 20 rfl) rfl ?_
  refine g_iconst (n := 39) hx (dq tX6_start 21 rfl) rfl ?_
  have e_15 : M_13 t 1 = M t 1 := ((((((m_14 t 1 (by omega))).trans (m_10 t 1 (by omega))).trans (m_8 t 1 (by omega))).trans (m_6 t 1 (by omega))).trans (m_4 t 1 (by omega))).trans (m_2 t 1 (by omega))
  have e_16 : M_13 t 3 = M_9 t 3 := (m_14 t 3 (by omega))
  refine g_callSv (n := 42) (As := [aR Γ (s + 1), vI (-1)]) (rest := []) hx (ctfillE Γ M_13 (s + 1) (aX6_6 (b := s) hs) (-1) (by decide) (by decide)) mlX6_61 (dq tX6_start 22 rfl) rfl (Nat.le_of_ble_eq_true rfl) (Nat.le_of_ble_eq_true rfl) (Nat.le_of_ble_eq_true rfl) rfl (fun M_18 p_20 => ?_)
  obtain ⟨f_21, h_22⟩ := p_20
  refine g_aload_n (n := 43) hx 0 (dq tX6_start 23 rfl) rfl rfl ?_
  refine g_getR (n := 46) hx glX6_19 (sX6_7 hs) (dq tX6_start 24 rfl) rfl ?_
  refine g_iconst (n := 47) hx (dq tX6_start 25 rfl) rfl ?_
  have e_23 : M_18 t 1 = M_13 t 1 := (f_21 t 1 (by omega))
  have e_24 : M_18 t 3 = M_13 t 3 := (f_21 t 3 (by omega))
  refine g_callSv (n := 50) (As := [aR Γ (s + 2), vI 0]) (rest := []) hx (ctfill_9_0 Γ M_18 (s + 2) (aX6_7 (b := s) hs) 0 (by decide) (by decide)) mlX6_61 (dq tX6_start 26 rfl) rfl (Nat.le_of_ble_eq_true rfl) (Nat.le_of_ble_eq_true rfl) (Nat.le_of_ble_eq_true rfl) rfl (fun M_26 p_28 => ?_)
  have f_29 := p_28
  refine g_aload_n (n := 51) hx 0 (dq tX6_start 27 rfl) rfl rfl ?_
  refine g_getR (n := 54) hx glX6_28 (sX6_10 hs) (dq tX6_start 28 rfl) rfl ?_
  refine g_iconst (n := 55) hx (dq tX6_start 29 rfl) rfl ?_
  have e_30 : M_26 t 1 = M_18 t 1 := (f_29 t 1 (by omega))
  have e_31 : M_26 t 3 = M_18 t 3 := (f_29 t 3 (by omega))
  refine g_callSv (n := 58) (As := [aR Γ (s + 5), vI 0]) (rest := []) hx (ctfill_12_0 Γ M_26 (s + 5) (aX6_10 (b := s) hs) 0 (by decide) (by decide)) mlX6_61 (dq tX6_start 30 rfl) rfl (Nat.le_of_ble_eq_true rfl) (Nat.le_of_ble_eq_true rfl) (Nat.le_of_ble_eq_true rfl) rfl (fun M_33 p_35 => ?_)
  have f_36 := p_35
  refine g_aload_n (n := 59) hx 0 (dq tX6_start 31 rfl) rfl rfl ?_
  refine g_getR (n := 62) hx glX6_31 (sX6_11 hs) (dq tX6_start 32 rfl) rfl ?_
  refine g_iconst (n := 63) hx (dq tX6_start 33 rfl) rfl ?_
  have e_37 : M_33 t 1 = M_26 t 1 := (f_36 t 1 (by omega))
  have e_38 : M_33 t 3 = M_26 t 3 := (f_36 t 3 (by omega))
  refine g_callSv (n := 66) (As := [aR Γ (s + 6), vI 0]) (rest := []) hx (ctfill_12_0 Γ M_33 (s + 6) (aX6_11 (b := s) hs) 0 (by decide) (by decide)) mlX6_61 (dq tX6_start 34 rfl) rfl (Nat.le_of_ble_eq_true rfl) (Nat.le_of_ble_eq_true rfl) (Nat.le_of_ble_eq_true rfl) rfl (fun M_40 p_42 => ?_)
  have f_43 := p_42
  refine g_aload_n (n := 67) hx 1 (dq tX6_start 35 rfl) rfl rfl ?_
  refine g_getR (n := 70) hx glX6_67 (sX2_9 ht) (dq tX6_start 36 rfl) rfl ?_
  refine g_aload_n (n := 71) hx 0 (dq tX6_start 37 rfl) rfl rfl ?_
  refine g_getR (n := 74) hx glX6_25 (sX6_9 hs) (dq tX6_start 38 rfl) rfl ?_
  have e_44 : M_40 t 1 = M_33 t 1 := (f_43 t 1 (by omega))
  have e_45 : M_40 t 3 = M_33 t 3 := (f_43 t 3 (by omega))
  refine g_callNv (n := 77) (As := [aR Γ (t + 5), aR Γ (s + 4)]) (rest := []) hx (ctX9_copyRow Γ M_40 (t + 5) (s + 4) 12 (aX2_9 (b := t) ht) (aX6_9 (b := s) hs) (by decide) (by decide) (by decide)) mlX6_70 (dq tX6_start 39 rfl) rfl (Nat.le_of_ble_eq_true rfl) (Nat.le_of_ble_eq_true rfl) (Nat.le_of_ble_eq_true rfl) rfl (fun M_47 p_49 => ?_)
  obtain ⟨f_50, e_51⟩ := p_49
  refine g_iconst (n := 78) hx (dq tX6_start 40 rfl) rfl ?_
  refine g_istore_n (n := 79) (lv' := [(2, vI 0), (0, aR Γ s), (1, aR Γ t)]) hx (dq tX6_start 41 rfl) (by decide) rfl rfl ?_
  have L_54 : ∀ (n_ : Nat) (i_52 : Int) (M_53 : zM), (0 ≤ i_52) → (i_52 ≤ 12) → (∀ u_ v_, u_ ≠ s + 8 ∧ u_ ≠ s + 9 ∧ u_ ≠ s + 7 ∧ u_ ≠ s + 3 → M_53 u_ v_ = M_47 u_ v_) → (∀ l : Nat, (l : Int) < i_52 → (M_53 (s + 3) l = 20 + M (t + 7) l ∧ M_53 (s + 7) l = l)) → ((12 - i_52).toNat = n_) → G Γ x 3 (QV Γ x (qctX6_start2 M s t)) M_53 79 [(2, vI i_52), (0, aR Γ s), (1, aR Γ t)] [] := by
    intro n_
    induction n_ using Nat.strongRecOn with
    | _ n_ ih_55 =>
      intro i_52 M_53 h_59 h_60 f_56 h_58 hm_57
      refine g_iload_n (n := 80) hx 0 (dq tX6_start 42 rfl) rfl rfl ?_
      refine g_aload_n (n := 81) hx 1 (dq tX6_start 43 rfl) rfl rfl ?_
      refine g_getI (n := 84) hx glX6_60 (sX6_5 hs) (dq tX6_start 44 rfl) rfl (fun h_61l h_61u => ?_)
      have e_62 : M_53 s 5 = M_13 s 5 := ((((((f_56 s 5 (by omega))).trans (f_50 s 5 (by omega))).trans (f_43 s 5 (by omega))).trans (f_36 s 5 (by omega))).trans (f_29 s 5 (by omega))).trans (f_21 s 5 (by omega))
      refine g_icmp_ge (n := 87) (t := 133) hx (dq tX6_start 45 rfl) (by decide) rfl ⟨by omega, by omega⟩ (zrI h_61l h_61u (by decide) (by decide)) (fun c_63 => ?_) (fun c_63 => ?_)
      · exact g_vret hx hr (dq tX6_start 75 rfl) ⟨(fun u_ v_ huv_ => ((((((((((((f_56 u_ v_ (by omega)).trans (f_50 u_ v_ (by omega))).trans (f_43 u_ v_ (by omega))).trans (f_36 u_ v_ (by omega))).trans (f_29 u_ v_ (by omega))).trans (f_21 u_ v_ (by omega))).trans (m_14 u_ v_ (by omega))).trans (m_10 u_ v_ (by omega))).trans (m_8 u_ v_ (by omega))).trans (m_6 u_ v_ (by omega))).trans (m_4 u_ v_ (by omega))).trans (m_2 u_ v_ (by omega)))), Gd.start ex0 ((((((((((((f_56 t 1 (by omega)).trans (f_50 t 1 (by omega))).trans (f_43 t 1 (by omega))).trans (f_36 t 1 (by omega))).trans (f_29 t 1 (by omega))).trans (f_21 t 1 (by omega))).trans (m_14 t 1 (by omega))).trans (m_10 t 1 (by omega))).trans (m_8 t 1 (by omega))).trans (m_6 t 1 (by omega))).trans (m_4 t 1 (by omega))).trans (m_2 t 1 (by omega))) ((((((((((((f_56 t 3 (by omega)).trans (f_50 t 3 (by omega))).trans (f_43 t 3 (by omega))).trans (f_36 t 3 (by omega))).trans (f_29 t 3 (by omega))).trans (f_21 t 3 (by omega))).trans (m_14 t 3 (by omega))).trans (m_10 t 3 (by omega))).trans (m_8 t 3 (by omega))).trans (m_6 t 3 (by omega))).trans (m_4 t 3 (by omega))).trans (m_2 t 3 (by omega))) (fun j => ((((((((((((f_56 (t + 1) j (by omega)).trans (f_50 (t + 1) j (by omega))).trans (f_43 (t + 1) j (by omega))).trans (f_36 (t + 1) j (by omega))).trans (f_29 (t + 1) j (by omega))).trans (f_21 (t + 1) j (by omega))).trans (m_14 (t + 1) j (by omega))).trans (m_10 (t + 1) j (by omega))).trans (m_8 (t + 1) j (by omega))).trans (m_6 (t + 1) j (by omega))).trans (m_4 (t + 1) j (by omega))).trans (m_2 (t + 1) j (by omega)))) (fun j => ((((((((((((f_56 (t + 4) j (by omega)).trans (f_50 (t + 4) j (by omega))).trans (f_43 (t + 4) j (by omega))).trans (f_36 (t + 4) j (by omega))).trans (f_29 (t + 4) j (by omega))).trans (f_21 (t + 4) j (by omega))).trans (m_14 (t + 4) j (by omega))).trans (m_10 (t + 4) j (by omega))).trans (m_8 (t + 4) j (by omega))).trans (m_6 (t + 4) j (by omega))).trans (m_4 (t + 4) j (by omega))).trans (m_2 (t + 4) j (by omega)))) (by have q0 := ((((((f_56 s 5 (by omega)).trans (f_50 s 5 (by omega))).trans (f_43 s 5 (by omega))).trans (f_36 s 5 (by omega))).trans (f_29 s 5 (by omega))).trans (f_21 s 5 (by omega))); have q1 := m_14e; have q2 := ((((((m_10 t 3 (by omega)).trans (m_8 t 3 (by omega))).trans (m_6 t 3 (by omega))).trans (m_4 t 3 (by omega))).trans (m_2 t 3 (by omega))) : M_9 t 3 = M t 3); omega) (fun l hl => by have q0 := h_58 l (by omega); omega), (((((((((((((f_56 s 0 (by omega)).trans (f_50 s 0 (by omega))).trans (f_43 s 0 (by omega))).trans (f_36 s 0 (by omega))).trans (f_29 s 0 (by omega))).trans (f_21 s 0 (by omega))).trans (m_14 s 0 (by omega))).trans (m_10 s 0 (by omega))).trans (m_8 s 0 (by omega))).trans (m_6 s 0 (by omega))).trans (m_4 s 0 (by omega)))).trans m_2e), ((((((((((((f_56 s 1 (by omega)).trans (f_50 s 1 (by omega))).trans (f_43 s 1 (by omega))).trans (f_36 s 1 (by omega))).trans (f_29 s 1 (by omega))).trans (f_21 s 1 (by omega))).trans (m_14 s 1 (by omega))).trans (m_10 s 1 (by omega))).trans (m_8 s 1 (by omega))).trans (m_6 s 1 (by omega)))).trans m_4e), (((((((((((f_56 s 2 (by omega)).trans (f_50 s 2 (by omega))).trans (f_43 s 2 (by omega))).trans (f_36 s 2 (by omega))).trans (f_29 s 2 (by omega))).trans (f_21 s 2 (by omega))).trans (m_14 s 2 (by omega))).trans (m_10 s 2 (by omega))).trans (m_8 s 2 (by omega)))).trans m_6e), ((((((((((f_56 s 3 (by omega)).trans (f_50 s 3 (by omega))).trans (f_43 s 3 (by omega))).trans (f_36 s 3 (by omega))).trans (f_29 s 3 (by omega))).trans (f_21 s 3 (by omega))).trans (m_14 s 3 (by omega))).trans (m_10 s 3 (by omega)))).trans m_8e), (fun j hj => ((((((f_56 (s + 1) j (by omega)).trans (f_50 (s + 1) j (by omega))).trans (f_43 (s + 1) j (by omega))).trans (f_36 (s + 1) j (by omega))).trans (f_29 (s + 1) j (by omega)))).trans (h_22 j hj))⟩
      · refine g_aload_n (n := 88) hx 1 (dq tX6_start 46 rfl) rfl rfl ?_
        refine g_getR (n := 91) hx glX6_22 (sX6_8 hs) (dq tX6_start 47 rfl) rfl ?_
        refine g_iload_n (n := 92) hx 0 (dq tX6_start 48 rfl) rfl rfl ?_
        refine g_bipush (n := 94) hx (dq tX6_start 49 rfl) rfl (by decide) ?_
        refine g_aload_n (n := 95) hx 2 (dq tX6_start 50 rfl) rfl rfl ?_
        refine g_getR (n := 98) hx glX6_74 (sX2_11 ht) (dq tX6_start 51 rfl) rfl ?_
        refine g_iload_n (n := 99) hx 0 (dq tX6_start 52 rfl) rfl rfl ?_
        refine g_iald (n := 100) (q := i_52.toNat) hx (aX2_11 (b := t) ht) (dq tX6_start 53 rfl) rfl (by omega) (by omega) (by omega) rfl (fun h_64l h_64u => ?_)
        have e_65 : M_53 t 1 = M_40 t 1 := ((f_56 t 1 (by omega))).trans (f_50 t 1 (by omega))
        have e_66 : M_53 t 3 = M_40 t 3 := ((f_56 t 3 (by omega))).trans (f_50 t 3 (by omega))
        have h_67 := ex0.2.2 i_52.toNat (by omega)
        have h_67e : M_53 (t + 7) i_52.toNat = M (t + 7) i_52.toNat := ((((((((((((f_56 (t + 7) i_52.toNat (by omega)).trans (f_50 (t + 7) i_52.toNat (by omega))).trans (f_43 (t + 7) i_52.toNat (by omega))).trans (f_36 (t + 7) i_52.toNat (by omega))).trans (f_29 (t + 7) i_52.toNat (by omega))).trans (f_21 (t + 7) i_52.toNat (by omega))).trans (m_14 (t + 7) i_52.toNat (by omega))).trans (m_10 (t + 7) i_52.toNat (by omega))).trans (m_8 (t + 7) i_52.toNat (by omega))).trans (m_6 (t + 7) i_52.toNat (by omega))).trans (m_4 (t + 7) i_52.toNat (by omega))).trans (m_2 (t + 7) i_52.toNat (by omega)))
        refine g_iadd (n := 101) hx (dq tX6_start 54 rfl) rfl ?_
        refine g_iast (n := 102) (q := i_52.toNat) hx (aX6_8 (b := s) hs) (dq tX6_start 55 rfl) rfl (by omega) (by omega) (by omega) rfl (by omega) (by omega) (fun M_68 m_69e m_69 => ?_)
        refine g_aload_n (n := 103) hx 1 (dq tX6_start 56 rfl) rfl rfl ?_
        refine g_getR (n := 106) hx glX6_34 (sX6_12 hs) (dq tX6_start 57 rfl) rfl ?_
        refine g_iload_n (n := 107) hx 0 (dq tX6_start 58 rfl) rfl rfl ?_
        refine g_iload_n (n := 108) hx 0 (dq tX6_start 59 rfl) rfl rfl ?_
        have e_70 : M_68 t 1 = M_53 t 1 := (m_69 t 1 (by omega))
        have e_71 : M_68 t 3 = M_53 t 3 := (m_69 t 3 (by omega))
        refine g_iast (n := 109) (q := i_52.toNat) hx (aX6_12 (b := s) hs) (dq tX6_start 60 rfl) rfl (by omega) (by omega) (by omega) rfl (by omega) (by omega) (fun M_72 m_73e m_73 => ?_)
        refine g_aload_n (n := 110) hx 1 (dq tX6_start 61 rfl) rfl rfl ?_
        refine g_getR (n := 113) hx glX6_37 (sX6_13 hs) (dq tX6_start 62 rfl) rfl ?_
        refine g_iload_n (n := 114) hx 0 (dq tX6_start 63 rfl) rfl rfl ?_
        refine g_iconst (n := 115) hx (dq tX6_start 64 rfl) rfl ?_
        refine g_iast (n := 116) (q := i_52.toNat) hx (aX6_13 (b := s) hs) (dq tX6_start 65 rfl) rfl (by omega) (by omega) (by omega) rfl (by omega) (by omega) (fun M_74 m_75e m_75 => ?_)
        refine g_aload_n (n := 117) hx 1 (dq tX6_start 66 rfl) rfl rfl ?_
        refine g_iload_n (n := 118) hx 0 (dq tX6_start 67 rfl) rfl rfl ?_
        refine g_aload_n (n := 119) hx 2 (dq tX6_start 68 rfl) rfl rfl ?_
        refine g_getR (n := 122) hx glX6_74 (sX2_11 ht) (dq tX6_start 69 rfl) rfl ?_
        refine g_iload_n (n := 123) hx 0 (dq tX6_start 70 rfl) rfl rfl ?_
        refine g_iald (n := 124) (q := i_52.toNat) hx (aX2_11 (b := t) ht) (dq tX6_start 71 rfl) rfl (by omega) (by omega) (by omega) rfl (fun h_76l h_76u => ?_)
        have e_77 : M_74 t 1 = M_68 t 1 := ((m_75 t 1 (by omega))).trans (m_73 t 1 (by omega))
        have e_78 : M_74 t 3 = M_68 t 3 := ((m_75 t 3 (by omega))).trans (m_73 t 3 (by omega))
        have h_79 := ex0.2.2 i_52.toNat (by omega)
        have h_79e : M_74 (t + 7) i_52.toNat = M (t + 7) i_52.toNat := (((((((((((((((m_75 (t + 7) i_52.toNat (by omega)).trans (m_73 (t + 7) i_52.toNat (by omega))).trans (m_69 (t + 7) i_52.toNat (by omega))).trans (f_56 (t + 7) i_52.toNat (by omega))).trans (f_50 (t + 7) i_52.toNat (by omega))).trans (f_43 (t + 7) i_52.toNat (by omega))).trans (f_36 (t + 7) i_52.toNat (by omega))).trans (f_29 (t + 7) i_52.toNat (by omega))).trans (f_21 (t + 7) i_52.toNat (by omega))).trans (m_14 (t + 7) i_52.toNat (by omega))).trans (m_10 (t + 7) i_52.toNat (by omega))).trans (m_8 (t + 7) i_52.toNat (by omega))).trans (m_6 (t + 7) i_52.toNat (by omega))).trans (m_4 (t + 7) i_52.toNat (by omega))).trans (m_2 (t + 7) i_52.toNat (by omega)))
        refine g_callVv (n := 127) (As := [vI i_52, vI (M_74 (t + 7) i_52.toNat)]) (rest := []) hx (ctX6_notchBehind Γ M_74 s hs i_52 (by omega) (by omega) (M_74 (t + 7) i_52.toNat) (by omega) (by omega)) mlX6_77 (obX6 hs) (dq tX6_start 72 rfl) rfl (Nat.le_of_ble_eq_true rfl) (Nat.le_of_ble_eq_true rfl) (Nat.le_of_ble_eq_true rfl) rfl (fun M_81 p_83 => ?_)
        have f_84 := p_83
        refine g_iinc (n := 130) (lv' := [(2, vI (i_52 + 1)), (0, aR Γ s), (1, aR Γ t)]) hx 0 (dq tX6_start 73 rfl) rfl (by decide) rfl rfl ?_
        refine g_goto (n := 79) hx (dq tX6_start 74 rfl) (by decide) ?_
        exact ih_55 _ (by omega) (i_52 + 1) M_81 (by omega) (by omega) (fun u_ v_ huv_ => (((((f_84 u_ v_ (by omega)).trans (m_75 u_ v_ (by omega))).trans (m_73 u_ v_ (by omega))).trans (m_69 u_ v_ (by omega))).trans (f_56 u_ v_ (by omega)))) (fun l hl => by
                  by_cases hq : l = i_52.toNat
                  · subst hq
                    have q1 := ((((f_84 (s + 3) i_52.toNat (by omega)).trans (m_75 (s + 3) i_52.toNat (by omega))).trans (m_73 (s + 3) i_52.toNat (by omega)))).trans m_69e
                    have q2 := (((f_84 (s + 7) i_52.toNat (by omega)).trans (m_75 (s + 7) i_52.toNat (by omega)))).trans m_73e
                    have q3 := (((((((((((((f_56 (t + 7) i_52.toNat (by omega)).trans (f_50 (t + 7) i_52.toNat (by omega))).trans (f_43 (t + 7) i_52.toNat (by omega))).trans (f_36 (t + 7) i_52.toNat (by omega))).trans (f_29 (t + 7) i_52.toNat (by omega))).trans (f_21 (t + 7) i_52.toNat (by omega))).trans (m_14 (t + 7) i_52.toNat (by omega))).trans (m_10 (t + 7) i_52.toNat (by omega))).trans (m_8 (t + 7) i_52.toNat (by omega))).trans (m_6 (t + 7) i_52.toNat (by omega))).trans (m_4 (t + 7) i_52.toNat (by omega))).trans (m_2 (t + 7) i_52.toNat (by omega))) : M_53 (t + 7) i_52.toNat = M (t + 7) i_52.toNat)
                    omega
                  · have q0 := h_58 l (by omega)
                    have q1 := (((((f_84 (s + 3) l (by omega)).trans (m_75 (s + 3) l (by omega))).trans (m_73 (s + 3) l (by omega))).trans (m_69 (s + 3) l (by omega))) : M_81 (s + 3) l = M_53 (s + 3) l)
                    have q2 := (((((f_84 (s + 7) l (by omega)).trans (m_75 (s + 7) l (by omega))).trans (m_73 (s + 7) l (by omega))).trans (m_69 (s + 7) l (by omega))) : M_81 (s + 7) l = M_53 (s + 7) l)
                    omega) rfl
  exact L_54 _ 0 M_47 (by omega) (by omega) (fun _ _ _ => rfl) (fun l hl => absurd hl (by omega)) rfl

abbrev qctX0_start2 (M : zM) (k : Nat) (M' : zM) : Prop := (∀ u_ v_, (u_ ≠ k ∨ v_ ≠ 1) ∧ (u_ ≠ k ∨ v_ ≠ 4) ∧ (u_ ≠ k ∨ v_ ≠ 6) ∧ (u_ ≠ k ∨ v_ ≠ 11) ∧ u_ ≠ k + 1 ∧ u_ ≠ k + 2 → M' u_ v_ = M u_ v_) ∧ (M' k 6 = 0)
set_option maxHeartbeats 4000000 in
set_option maxRecDepth 100000 in
theorem ctX0_start2 (Γ : Gam) (M : zM) (k : Nat) (hk : isX0 k)  : CtV Γ yX0_start cX0_start 1 none 1 23 [aR Γ k] M (qctX0_start2 M k) := by
  refine met_v (by decide) (Nat.le_of_ble_eq_true rfl) (fun x hx hr => ?_)
  show G Γ x 1 (QV Γ x (qctX0_start2 M k)) M 0 [(0, aR Γ k)] []
  refine g_aload_n (n := 1) hx 0 (dq tX0_start 0 rfl) rfl rfl ?_
  refine g_iconst (n := 2) hx (dq tX0_start 1 rfl) rfl ?_
  refine g_putI (n := 5) hx plX0_48 (sX0_1 hk) (dq tX0_start 2 rfl) rfl (by omega) (by omega) (fun M_1 m_2e m_2 => ?_)
  refine g_aload_n (n := 6) hx 0 (dq tX0_start 3 rfl) rfl rfl ?_
  refine g_getR (n := 9) hx glX0_9 (sX0_2 hk) (dq tX0_start 4 rfl) rfl ?_
  refine g_iconst (n := 10) hx (dq tX0_start 5 rfl) rfl ?_
  refine g_callSv (n := 13) (As := [aR Γ (k + 1), vI 0]) (rest := []) hx (ctfill_6_0 Γ M_1 (k + 1) (aX0_2 (b := k) hk) 0 (by decide) (by decide)) mlX0_52 (dq tX0_start 6 rfl) rfl (Nat.le_of_ble_eq_true rfl) (Nat.le_of_ble_eq_true rfl) (Nat.le_of_ble_eq_true rfl) rfl (fun M_4 p_6 => ?_)
  have f_7 := p_6
  refine g_aload_n (n := 14) hx 0 (dq tX0_start 7 rfl) rfl rfl ?_
  refine g_getR (n := 17) hx glX0_15 (sX0_3 hk) (dq tX0_start 8 rfl) rfl ?_
  refine g_iconst (n := 18) hx (dq tX0_start 9 rfl) rfl ?_
  refine g_callSv (n := 21) (As := [aR Γ (k + 2), vI 0]) (rest := []) hx (ctfill_36_0 Γ M_4 (k + 2) (aX0_3 (b := k) hk) 0 (by decide) (by decide)) mlX0_52 (dq tX0_start 10 rfl) rfl (Nat.le_of_ble_eq_true rfl) (Nat.le_of_ble_eq_true rfl) (Nat.le_of_ble_eq_true rfl) rfl (fun M_9 p_11 => ?_)
  have f_12 := p_11
  refine g_aload_n (n := 22) hx 0 (dq tX0_start 11 rfl) rfl rfl ?_
  refine g_iconst (n := 23) hx (dq tX0_start 12 rfl) rfl ?_
  refine g_putI (n := 26) hx plX0_58 (sX0_4 hk) (dq tX0_start 13 rfl) rfl (by omega) (by omega) (fun M_13 m_14e m_14 => ?_)
  refine g_aload_n (n := 27) hx 0 (dq tX0_start 14 rfl) rfl rfl ?_
  refine g_iconst (n := 28) hx (dq tX0_start 15 rfl) rfl ?_
  refine g_putI (n := 31) hx plX0_61 (sX0_6 hk) (dq tX0_start 16 rfl) rfl (by omega) (by omega) (fun M_15 m_16e m_16 => ?_)
  refine g_aload_n (n := 32) hx 0 (dq tX0_start 17 rfl) rfl rfl ?_
  refine g_iconst (n := 33) hx (dq tX0_start 18 rfl) rfl ?_
  refine g_putI (n := 36) hx plX0_64 (sX0_11 hk) (dq tX0_start 19 rfl) rfl (by omega) (by omega) (fun M_17 m_18e m_18 => ?_)
  exact g_vret hx hr (dq tX0_start 20 rfl) ⟨(fun u_ v_ huv_ => ((((((m_18 u_ v_ (by omega)).trans (m_16 u_ v_ (by omega))).trans (m_14 u_ v_ (by omega))).trans (f_12 u_ v_ (by omega))).trans (f_7 u_ v_ (by omega))).trans (m_2 u_ v_ (by omega)))), (((m_18 k 6 (by omega))).trans m_16e)⟩

abbrev qctX7_number3 (M : zM) (t9 : Nat → Int) (n9 : Nat) (a9 : Nat) (z : Int) (M' : zM) : Prop := M = M' ∧ (-1) ≤ z ∧ z ≤ 99999 ∧ (z = -1 ↔ a9 + 5 < stp t9 n9 a9) ∧ (z ≠ -1 → z = nv t9 a9 (stp t9 n9 a9 - a9))
set_option maxHeartbeats 4000000 in
set_option maxRecDepth 100000 in
theorem ctX7_number3 (Γ : Gam) (M : zM) (t9 : Nat → Int) (n9 : Nat) (a9 : Nat) (pre0 : 48 ≤ fst9 t9 n9 a9 ∧ fst9 t9 n9 a9 ≤ 57) (ex0 : Tc M t9 n9 a9) : CtI Γ yX7_number cX7_number 3 (some .int) 0 0 [aR Γ 7] M (qctX7_number3 M t9 n9 a9) := by
  refine met_i (by decide) (Nat.le_of_ble_eq_true rfl) (fun x hx hr => ?_)
  show G Γ x 3 (QI Γ x (qctX7_number3 M t9 n9 a9)) M 0 [(0, aR Γ 7)] []
  have ht_at := Tc.at ex0
  have ht_fst := Tc.fst ex0
  have ht_le := Tc.le ex0
  have ht_stop := Tc.stop ex0
  have ht_sle := Tc.sle ex0
  have ht_n := (Tc.tx ex0).1
  have ht_r := stp_le t9 n9 a9 ht_le
  have hlt : a9 < n9 := by by_cases z : a9 < n9; exact z; rw [fst9_out (by omega)] at pre0; omega
  rw [fst9_in hlt] at pre0
  refine g_aload_n (n := 1) hx 0 (dq tX7_number 0 rfl) rfl rfl ?_
  refine g_getI (n := 4) hx glX7_22 (sX7_3 (by decide)) (dq tX7_number 1 rfl) rfl (fun h_1l h_1u => ?_)
  refine g_aload_n (n := 5) hx 0 (dq tX7_number 2 rfl) rfl rfl ?_
  refine g_getI (n := 8) hx glX7_28 (sX7_2 (by decide)) (dq tX7_number 3 rfl) rfl (fun h_2l h_2u => ?_)
  refine g_isub (n := 9) hx (dq tX7_number 4 rfl) rfl ?_
  refine g_iconst (n := 10) hx (dq tX7_number 5 rfl) rfl ?_
  refine g_icmp_le (n := 13) (t := 15) hx (dq tX7_number 6 rfl) (by decide) rfl ⟨by omega, by omega⟩ ⟨by decide, by decide⟩ (fun c_3 => ?_) (fun c_3 => ?_)
  · refine g_iconst (n := 16) hx (dq tX7_number 9 rfl) rfl ?_
    refine g_istore_n (n := 17) (lv' := [(1, vI 0), (0, aR Γ 7)]) hx (dq tX7_number 10 rfl) (by decide) rfl rfl ?_
    refine g_aload_n (n := 18) hx 1 (dq tX7_number 11 rfl) rfl rfl ?_
    refine g_getI (n := 21) hx glX7_28 (sX7_2 (by decide)) (dq tX7_number 12 rfl) rfl (fun h_4l h_4u => ?_)
    refine g_istore_n (n := 22) (lv' := [(2, vI (M 7 2)), (1, vI 0), (0, aR Γ 7)]) hx (dq tX7_number 13 rfl) (by decide) rfl rfl ?_
    have L_7 : ∀ (n_ : Nat) (i_5 : Int) (i_6 : Int), (0 ≤ i_5) → (i_5 ≤ 400) → (0 ≤ i_6) → (i_6 ≤ 99999) → ((a9 : Int) ≤ i_5) → (i_5 ≤ stp t9 n9 a9) → (i_5 = a9 → i_6 = 0) → (i_5 = a9 + 1 → i_6 ≤ 9) → (i_5 = a9 + 2 → i_6 ≤ 99) → (i_5 = a9 + 3 → i_6 ≤ 999) → (i_5 = a9 + 4 → i_6 ≤ 9999) → (i_6 = nv t9 a9 (i_5 - (a9 : Int)).toNat) → ((400 - i_5).toNat = n_) → G Γ x 3 (QI Γ x (qctX7_number3 M t9 n9 a9)) M 22 [(2, vI i_5), (1, vI i_6), (0, aR Γ 7)] [] := by
      intro n_
      induction n_ using Nat.strongRecOn with
      | _ n_ ih_8 =>
        intro i_5 i_6 h_19 h_20 h_21 h_22 h_11 h_12 h_13 h_14 h_15 h_16 h_17 h_18 hm_10
        refine g_iload_n (n := 23) hx 0 (dq tX7_number 14 rfl) rfl rfl ?_
        refine g_aload_n (n := 24) hx 2 (dq tX7_number 15 rfl) rfl rfl ?_
        refine g_getI (n := 27) hx glX7_22 (sX7_3 (by decide)) (dq tX7_number 16 rfl) rfl (fun h_23l h_23u => ?_)
        refine g_icmp_ge (n := 30) (t := 51) hx (dq tX7_number 17 rfl) (by decide) rfl ⟨by omega, by omega⟩ (zrI h_23l h_23u (by decide) (by decide)) (fun c_24 => ?_) (fun c_24 => ?_)
        · refine g_iload_n (n := 52) hx 1 (dq tX7_number 31 rfl) rfl rfl ?_
          exact g_iret hx hr (dq tX7_number 32 rfl) ⟨by omega, by omega⟩ ⟨rfl, (by omega), (by omega), (by omega), (fun _ => by have w1 := h_18; rw [show (i_5 - (a9 : Int)).toNat = stp t9 n9 a9 - a9 by omega] at w1; exact w1)⟩
        · refine g_iload_n (n := 31) hx 1 (dq tX7_number 18 rfl) rfl rfl ?_
          refine g_bipush (n := 33) hx (dq tX7_number 19 rfl) rfl (by decide) ?_
          refine g_imul (n := 34) hx (dq tX7_number 20 rfl) rfl ?_
          refine g_aload_n (n := 35) hx 2 (dq tX7_number 21 rfl) rfl rfl ?_
          refine g_getR (n := 38) hx glX7_9 (sX7_0 (by decide)) (dq tX7_number 22 rfl) rfl ?_
          refine g_iload_n (n := 39) hx 0 (dq tX7_number 23 rfl) rfl rfl ?_
          refine g_iald (n := 40) (q := i_5.toNat) hx (aX7_0 (b := 7) (by decide)) (dq tX7_number 24 rfl) rfl (by omega) (by omega) (by omega) rfl (fun h_25l h_25u => ?_)
          have h_26 : M (7 + 1) i_5.toNat = t9 i_5.toNat := (Tc.tx ex0).2 i_5.toNat (by omega)
          have h_26d := dig_in (t := t9) (n := n9) (a := a9) (by omega) (by omega) (by omega) i_5.toNat (by omega) (by omega)
          refine g_iadd (n := 41) hx (dq tX7_number 25 rfl) rfl ?_
          refine g_bipush (n := 43) hx (dq tX7_number 26 rfl) rfl (by decide) ?_
          refine g_isub (n := 44) hx (dq tX7_number 27 rfl) rfl ?_
          refine g_istore_n (n := 45) (lv' := [(1, vI (((i_6 * 10) + (M (7 + 1) i_5.toNat)) - 48)), (2, vI i_5), (0, aR Γ 7)]) hx (dq tX7_number 28 rfl) (by decide) rfl rfl ?_
          refine g_iinc (n := 48) (lv' := [(2, vI (i_5 + 1)), (1, vI (((i_6 * 10) + (M (7 + 1) i_5.toNat)) - 48)), (0, aR Γ 7)]) hx 1 (dq tX7_number 29 rfl) rfl (by decide) rfl rfl ?_
          refine g_goto (n := 22) hx (dq tX7_number 30 rfl) (by decide) ?_
          exact ih_8 _ (by omega) (i_5 + 1) (((i_6 * 10) + (M (7 + 1) i_5.toNat)) - 48) (by omega) (by omega) (by omega) (by omega) (by omega) (by omega) (by omega) (by omega) (by omega) (by omega) (by omega) (by rw [show (i_5 + 1 - (a9 : Int)).toNat = (i_5 - (a9 : Int)).toNat + 1 by omega]; exact nv_go (x := t9 i_5.toNat) h_18 (congrArg t9 (by omega)) (by omega)) rfl
    exact L_7 _ (M 7 2) 0 (by omega) (by omega) (by omega) (by omega) (by omega) (by omega) (by omega) (by omega) (by omega) (by omega) (by omega) (by rw [show (M 7 2 - (a9 : Int)).toNat = 0 by omega]; rfl) rfl
  · refine g_iconst (n := 14) hx (dq tX7_number 7 rfl) rfl ?_
    exact g_iret hx hr (dq tX7_number 8 rfl) ⟨by decide, by decide⟩ ⟨rfl, (by omega), (by omega), (by omega), (fun hz => absurd rfl hz)⟩

abbrev qctX3_readNumber2 (M : zM) (low : Int) (high : Int) (t9 : Nat → Int) (n9 : Nat) (a9 : Nat) (z : Int) (M' : zM) : Prop := (∀ u_ v_, (u_ ≠ 7 ∨ v_ ≠ 2) ∧ (u_ ≠ 7 ∨ v_ ≠ 3) ∧ (u_ ≠ 7 ∨ v_ ≠ 4) ∧ (u_ ≠ 7 ∨ v_ ≠ 5) → M' u_ v_ = M u_ v_) ∧ (RN M M' low high z) ∧ (Tc M' t9 n9 (M' 7 2).toNat) ∧ (oa (M' 7 5) (M' 7 2).toNat = bn (oa (M 7 5) a9) (Am t9 n9 low high)) ∧ (M' 7 5 = 0 → z = nv t9 a9 (stp t9 n9 a9 - a9))
set_option maxHeartbeats 4000000 in
set_option maxRecDepth 100000 in
theorem ctX3_readNumber2 (Γ : Gam) (M : zM) (low : Int) (hlowl : 0 ≤ low) (hlowu : low ≤ 2) (high : Int) (hhighl : (-2) ≤ high) (hhighu : high ≤ 99) (t9 : Nat → Int) (n9 : Nat) (a9 : Nat) (ex0 : Tc M t9 n9 a9) : CtI Γ yX3_readNumber cX3_readNumber 4 (some .int) 1 23 [aR Γ 9, vI low, vI high] M (qctX3_readNumber2 M low high t9 n9 a9) := by
  refine met_i (by decide) (Nat.le_of_ble_eq_true rfl) (fun x hx hr => ?_)
  show G Γ x 4 (QI Γ x (qctX3_readNumber2 M low high t9 n9 a9)) M 0 [(0, aR Γ 9), (1, vI low), (2, vI high)] []
  have ht_at := Tc.at ex0
  have ht_fst := Tc.fst ex0
  have ht_le := Tc.le ex0
  have ht_stop := Tc.stop ex0
  have ht_sle := Tc.sle ex0
  have ht_n := (Tc.tx ex0).1
  have ht_r := stp_le t9 n9 a9 ht_le
  refine g_aload_n (n := 1) hx 0 (dq tX3_readNumber 0 rfl) rfl rfl ?_
  refine g_getR (n := 4) hx glX3_18 (sX3_1 (by decide)) (dq tX3_readNumber 1 rfl) rfl ?_
  refine g_getI (n := 7) hx glX3_99 (sX7_5 (by decide)) (dq tX3_readNumber 2 rfl) rfl (fun h_1l h_1u => ?_)
  refine g_if_eq (n := 10) (t := 12) hx (dq tX3_readNumber 3 rfl) (by decide) rfl (zrI h_1l h_1u (by decide) (by decide)) (fun c_2 => ?_) (fun c_2 => ?_)
  · refine g_aload_n (n := 13) hx 0 (dq tX3_readNumber 6 rfl) rfl rfl ?_
    refine g_getR (n := 16) hx glX3_18 (sX3_1 (by decide)) (dq tX3_readNumber 7 rfl) rfl ?_
    refine g_callVi (n := 19) (As := []) (rest := []) hx (ctX7_isNumber2 Γ M t9 n9 a9 ex0) mlX3_102 (obX7 (by decide)) (dq tX3_readNumber 8 rfl) rfl (Nat.le_of_ble_eq_true rfl) (Nat.le_of_ble_eq_true rfl) (Nat.le_of_ble_eq_true rfl) rfl (fun z_3 M_4 h_5 p_6 => ?_)
    obtain ⟨rfl, h_8, h_9, h_10⟩ := p_6
    refine g_if_eq (n := 22) (t := 32) hx (dq tX3_readNumber 9 rfl) (by decide) rfl h_5 (fun c_11 => ?_) (fun c_11 => ?_)
    · refine g_iconst (n := 33) hx (dq tX3_readNumber 14 rfl) rfl ?_
      refine g_istore_n (n := 34) (lv' := [(3, vI (-1)), (0, aR Γ 9), (1, vI low), (2, vI high)]) hx (dq tX3_readNumber 15 rfl) (by decide) rfl rfl ?_
      refine g_iload_n (n := 35) hx 0 (dq tX3_readNumber 16 rfl) rfl rfl ?_
      refine g_iload_n (n := 36) hx 2 (dq tX3_readNumber 17 rfl) rfl rfl ?_
      refine g_icmp_lt (n := 39) (t := 53) hx (dq tX3_readNumber 18 rfl) (by decide) rfl ⟨by decide, by decide⟩ (zrI hlowl hlowu (by decide) (by decide)) (fun c_12 => ?_) (fun c_12 => ?_)
      · refine g_aload_n (n := 54) hx 1 (dq tX3_readNumber 27 rfl) rfl rfl ?_
        refine g_getR (n := 57) hx glX3_18 (sX3_1 (by decide)) (dq tX3_readNumber 28 rfl) rfl ?_
        refine g_aload_n (n := 58) hx 1 (dq tX3_readNumber 29 rfl) rfl rfl ?_
        refine g_getR (n := 61) hx glX3_18 (sX3_1 (by decide)) (dq tX3_readNumber 30 rfl) rfl ?_
        refine g_callVi (n := 64) (As := []) (rest := [aR Γ 7]) hx (ctX7_isNumber2 Γ M t9 n9 a9 ex0) mlX3_102 (obX7 (by decide)) (dq tX3_readNumber 31 rfl) rfl (Nat.le_of_ble_eq_true rfl) (Nat.le_of_ble_eq_true rfl) (Nat.le_of_ble_eq_true rfl) rfl (fun z_13 M_14 h_15 p_16 => ?_)
        obtain ⟨rfl, h_18, h_19, h_20⟩ := p_16
        refine g_if_eq (n := 67) (t := 71) hx (dq tX3_readNumber 32 rfl) (by decide) rfl h_15 (fun c_21 => ?_) (fun c_21 => ?_)
        · refine g_iconst (n := 72) hx (dq tX3_readNumber 35 rfl) rfl ?_
          refine g_callVi (n := 75) (As := [vI 0]) (rest := []) hx (ctX7_fails2 Γ M 0 (by decide) (by decide)) mlX3_40 (obX7 (by decide)) (dq tX3_readNumber 36 rfl) rfl (Nat.le_of_ble_eq_true rfl) (Nat.le_of_ble_eq_true rfl) (Nat.le_of_ble_eq_true rfl) rfl (fun z_22 M_23 h_24 p_25 => ?_)
          obtain ⟨f_26, h_27, h_28, h_29⟩ := p_25
          have g_30 : Tc M_23 t9 n9 a9 := Tc.frame ex0 (fun c j hcj => f_26 c j (by omega))
          refine g_pop (n := 76) hx (dq tX3_readNumber 37 rfl) rfl rfl ?_
          refine g_iconst (n := 77) hx (dq tX3_readNumber 38 rfl) rfl ?_
          have e_31 : M_23 7 1 = M 7 1 := (f_26 7 1 (by omega))
          have e_32 : M_23 7 2 = M 7 2 := (f_26 7 2 (by omega))
          have e_33 : M_23 7 3 = M 7 3 := (f_26 7 3 (by omega))
          have e_34 : M_23 7 4 = M 7 4 := (f_26 7 4 (by omega))
          exact g_iret hx hr (dq tX3_readNumber 39 rfl) ⟨by decide, by decide⟩ ⟨(fun u_ v_ huv_ => (f_26 u_ v_ (by omega))), (by unfold RN; exact ⟨by omega, by omega, by omega⟩), (by have w1 := Tc.at g_30; rw [show (M_23 7 2).toNat = a9 by omega]; exact g_30), (am_0 (by omega) (by omega) (by omega)), (by omega)⟩
        · refine g_iconst (n := 68) hx (dq tX3_readNumber 33 rfl) rfl ?_
          refine g_goto (n := 72) hx (dq tX3_readNumber 34 rfl) (by decide) ?_
          refine g_callVi (n := 75) (As := [vI 1]) (rest := []) hx (ctX7_fails2 Γ M 1 (by decide) (by decide)) mlX3_40 (obX7 (by decide)) (dq tX3_readNumber 36 rfl) rfl (Nat.le_of_ble_eq_true rfl) (Nat.le_of_ble_eq_true rfl) (Nat.le_of_ble_eq_true rfl) rfl (fun z_35 M_36 h_37 p_38 => ?_)
          obtain ⟨f_39, h_40, h_41, h_42⟩ := p_38
          have g_43 : Tc M_36 t9 n9 a9 := Tc.frame ex0 (fun c j hcj => f_39 c j (by omega))
          refine g_pop (n := 76) hx (dq tX3_readNumber 37 rfl) rfl rfl ?_
          refine g_iconst (n := 77) hx (dq tX3_readNumber 38 rfl) rfl ?_
          have e_44 : M_36 7 1 = M 7 1 := (f_39 7 1 (by omega))
          have e_45 : M_36 7 2 = M 7 2 := (f_39 7 2 (by omega))
          have e_46 : M_36 7 3 = M 7 3 := (f_39 7 3 (by omega))
          have e_47 : M_36 7 4 = M 7 4 := (f_39 7 4 (by omega))
          exact g_iret hx hr (dq tX3_readNumber 39 rfl) ⟨by decide, by decide⟩ ⟨(fun u_ v_ huv_ => (f_39 u_ v_ (by omega))), (by unfold RN; exact ⟨by omega, by omega, by omega⟩), (by have w1 := Tc.at g_43; rw [show (M_36 7 2).toNat = a9 by omega]; exact g_43), (by exfalso; omega), (by omega)⟩
      · omega
    · refine g_aload_n (n := 23) hx 0 (dq tX3_readNumber 10 rfl) rfl rfl ?_
      refine g_getR (n := 26) hx glX3_18 (sX3_1 (by decide)) (dq tX3_readNumber 11 rfl) rfl ?_
      refine g_callVi (n := 29) (As := []) (rest := []) hx (ctX7_number3 Γ M t9 n9 a9 (by omega) ex0) mlX3_106 (obX7 (by decide)) (dq tX3_readNumber 12 rfl) rfl (Nat.le_of_ble_eq_true rfl) (Nat.le_of_ble_eq_true rfl) (Nat.le_of_ble_eq_true rfl) rfl (fun z_48 M_49 h_50 p_51 => ?_)
      obtain ⟨rfl, h_53, h_54, h_55, h_56⟩ := p_51
      refine g_goto (n := 33) hx (dq tX3_readNumber 13 rfl) (by decide) ?_
      refine g_istore_n (n := 34) (lv' := [(3, vI z_48), (0, aR Γ 9), (1, vI low), (2, vI high)]) hx (dq tX3_readNumber 15 rfl) (by decide) rfl rfl ?_
      refine g_iload_n (n := 35) hx 0 (dq tX3_readNumber 16 rfl) rfl rfl ?_
      refine g_iload_n (n := 36) hx 2 (dq tX3_readNumber 17 rfl) rfl rfl ?_
      refine g_icmp_lt (n := 39) (t := 53) hx (dq tX3_readNumber 18 rfl) (by decide) rfl h_50 (zrI hlowl hlowu (by decide) (by decide)) (fun c_57 => ?_) (fun c_57 => ?_)
      · refine g_aload_n (n := 54) hx 1 (dq tX3_readNumber 27 rfl) rfl rfl ?_
        refine g_getR (n := 57) hx glX3_18 (sX3_1 (by decide)) (dq tX3_readNumber 28 rfl) rfl ?_
        refine g_aload_n (n := 58) hx 1 (dq tX3_readNumber 29 rfl) rfl rfl ?_
        refine g_getR (n := 61) hx glX3_18 (sX3_1 (by decide)) (dq tX3_readNumber 30 rfl) rfl ?_
        refine g_callVi (n := 64) (As := []) (rest := [aR Γ 7]) hx (ctX7_isNumber2 Γ M t9 n9 a9 ex0) mlX3_102 (obX7 (by decide)) (dq tX3_readNumber 31 rfl) rfl (Nat.le_of_ble_eq_true rfl) (Nat.le_of_ble_eq_true rfl) (Nat.le_of_ble_eq_true rfl) rfl (fun z_58 M_59 h_60 p_61 => ?_)
        obtain ⟨rfl, h_63, h_64, h_65⟩ := p_61
        refine g_if_eq (n := 67) (t := 71) hx (dq tX3_readNumber 32 rfl) (by decide) rfl h_60 (fun c_66 => ?_) (fun c_66 => ?_)
        · refine g_iconst (n := 72) hx (dq tX3_readNumber 35 rfl) rfl ?_
          refine g_callVi (n := 75) (As := [vI 0]) (rest := []) hx (ctX7_fails2 Γ M 0 (by decide) (by decide)) mlX3_40 (obX7 (by decide)) (dq tX3_readNumber 36 rfl) rfl (Nat.le_of_ble_eq_true rfl) (Nat.le_of_ble_eq_true rfl) (Nat.le_of_ble_eq_true rfl) rfl (fun z_67 M_68 h_69 p_70 => ?_)
          obtain ⟨f_71, h_72, h_73, h_74⟩ := p_70
          have g_75 : Tc M_68 t9 n9 a9 := Tc.frame ex0 (fun c j hcj => f_71 c j (by omega))
          refine g_pop (n := 76) hx (dq tX3_readNumber 37 rfl) rfl rfl ?_
          refine g_iconst (n := 77) hx (dq tX3_readNumber 38 rfl) rfl ?_
          have e_76 : M_68 7 1 = M 7 1 := (f_71 7 1 (by omega))
          have e_77 : M_68 7 2 = M 7 2 := (f_71 7 2 (by omega))
          have e_78 : M_68 7 3 = M 7 3 := (f_71 7 3 (by omega))
          have e_79 : M_68 7 4 = M 7 4 := (f_71 7 4 (by omega))
          exact g_iret hx hr (dq tX3_readNumber 39 rfl) ⟨by decide, by decide⟩ ⟨(fun u_ v_ huv_ => (f_71 u_ v_ (by omega))), (by unfold RN; exact ⟨by omega, by omega, by omega⟩), (by have w1 := Tc.at g_75; rw [show (M_68 7 2).toNat = a9 by omega]; exact g_75), (by exfalso; omega), (by omega)⟩
        · refine g_iconst (n := 68) hx (dq tX3_readNumber 33 rfl) rfl ?_
          refine g_goto (n := 72) hx (dq tX3_readNumber 34 rfl) (by decide) ?_
          refine g_callVi (n := 75) (As := [vI 1]) (rest := []) hx (ctX7_fails2 Γ M 1 (by decide) (by decide)) mlX3_40 (obX7 (by decide)) (dq tX3_readNumber 36 rfl) rfl (Nat.le_of_ble_eq_true rfl) (Nat.le_of_ble_eq_true rfl) (Nat.le_of_ble_eq_true rfl) rfl (fun z_80 M_81 h_82 p_83 => ?_)
          obtain ⟨f_84, h_85, h_86, h_87⟩ := p_83
          have g_88 : Tc M_81 t9 n9 a9 := Tc.frame ex0 (fun c j hcj => f_84 c j (by omega))
          refine g_pop (n := 76) hx (dq tX3_readNumber 37 rfl) rfl rfl ?_
          refine g_iconst (n := 77) hx (dq tX3_readNumber 38 rfl) rfl ?_
          have e_89 : M_81 7 1 = M 7 1 := (f_84 7 1 (by omega))
          have e_90 : M_81 7 2 = M 7 2 := (f_84 7 2 (by omega))
          have e_91 : M_81 7 3 = M 7 3 := (f_84 7 3 (by omega))
          have e_92 : M_81 7 4 = M 7 4 := (f_84 7 4 (by omega))
          exact g_iret hx hr (dq tX3_readNumber 39 rfl) ⟨by decide, by decide⟩ ⟨(fun u_ v_ huv_ => (f_84 u_ v_ (by omega))), (by unfold RN; exact ⟨by omega, by omega, by omega⟩), (by have w1 := Tc.at g_88; rw [show (M_81 7 2).toNat = a9 by omega]; exact g_88), (am_1 (by omega) (by omega) (fun hc9 => by omega) (by omega)), (by omega)⟩
      · refine g_iload_n (n := 40) hx 0 (dq tX3_readNumber 19 rfl) rfl rfl ?_
        refine g_iload_n (n := 41) hx 3 (dq tX3_readNumber 20 rfl) rfl rfl ?_
        refine g_icmp_gt (n := 44) (t := 53) hx (dq tX3_readNumber 21 rfl) (by decide) rfl h_50 (zrI hhighl hhighu (by decide) (by decide)) (fun c_93 => ?_) (fun c_93 => ?_)
        · refine g_aload_n (n := 54) hx 1 (dq tX3_readNumber 27 rfl) rfl rfl ?_
          refine g_getR (n := 57) hx glX3_18 (sX3_1 (by decide)) (dq tX3_readNumber 28 rfl) rfl ?_
          refine g_aload_n (n := 58) hx 1 (dq tX3_readNumber 29 rfl) rfl rfl ?_
          refine g_getR (n := 61) hx glX3_18 (sX3_1 (by decide)) (dq tX3_readNumber 30 rfl) rfl ?_
          refine g_callVi (n := 64) (As := []) (rest := [aR Γ 7]) hx (ctX7_isNumber2 Γ M t9 n9 a9 ex0) mlX3_102 (obX7 (by decide)) (dq tX3_readNumber 31 rfl) rfl (Nat.le_of_ble_eq_true rfl) (Nat.le_of_ble_eq_true rfl) (Nat.le_of_ble_eq_true rfl) rfl (fun z_94 M_95 h_96 p_97 => ?_)
          obtain ⟨rfl, h_99, h_100, h_101⟩ := p_97
          refine g_if_eq (n := 67) (t := 71) hx (dq tX3_readNumber 32 rfl) (by decide) rfl h_96 (fun c_102 => ?_) (fun c_102 => ?_)
          · refine g_iconst (n := 72) hx (dq tX3_readNumber 35 rfl) rfl ?_
            refine g_callVi (n := 75) (As := [vI 0]) (rest := []) hx (ctX7_fails2 Γ M 0 (by decide) (by decide)) mlX3_40 (obX7 (by decide)) (dq tX3_readNumber 36 rfl) rfl (Nat.le_of_ble_eq_true rfl) (Nat.le_of_ble_eq_true rfl) (Nat.le_of_ble_eq_true rfl) rfl (fun z_103 M_104 h_105 p_106 => ?_)
            obtain ⟨f_107, h_108, h_109, h_110⟩ := p_106
            have g_111 : Tc M_104 t9 n9 a9 := Tc.frame ex0 (fun c j hcj => f_107 c j (by omega))
            refine g_pop (n := 76) hx (dq tX3_readNumber 37 rfl) rfl rfl ?_
            refine g_iconst (n := 77) hx (dq tX3_readNumber 38 rfl) rfl ?_
            have e_112 : M_104 7 1 = M 7 1 := (f_107 7 1 (by omega))
            have e_113 : M_104 7 2 = M 7 2 := (f_107 7 2 (by omega))
            have e_114 : M_104 7 3 = M 7 3 := (f_107 7 3 (by omega))
            have e_115 : M_104 7 4 = M 7 4 := (f_107 7 4 (by omega))
            exact g_iret hx hr (dq tX3_readNumber 39 rfl) ⟨by decide, by decide⟩ ⟨(fun u_ v_ huv_ => (f_107 u_ v_ (by omega))), (by unfold RN; exact ⟨by omega, by omega, by omega⟩), (by have w1 := Tc.at g_111; rw [show (M_104 7 2).toNat = a9 by omega]; exact g_111), (by exfalso; omega), (by omega)⟩
          · refine g_iconst (n := 68) hx (dq tX3_readNumber 33 rfl) rfl ?_
            refine g_goto (n := 72) hx (dq tX3_readNumber 34 rfl) (by decide) ?_
            refine g_callVi (n := 75) (As := [vI 1]) (rest := []) hx (ctX7_fails2 Γ M 1 (by decide) (by decide)) mlX3_40 (obX7 (by decide)) (dq tX3_readNumber 36 rfl) rfl (Nat.le_of_ble_eq_true rfl) (Nat.le_of_ble_eq_true rfl) (Nat.le_of_ble_eq_true rfl) rfl (fun z_116 M_117 h_118 p_119 => ?_)
            obtain ⟨f_120, h_121, h_122, h_123⟩ := p_119
            have g_124 : Tc M_117 t9 n9 a9 := Tc.frame ex0 (fun c j hcj => f_120 c j (by omega))
            refine g_pop (n := 76) hx (dq tX3_readNumber 37 rfl) rfl rfl ?_
            refine g_iconst (n := 77) hx (dq tX3_readNumber 38 rfl) rfl ?_
            have e_125 : M_117 7 1 = M 7 1 := (f_120 7 1 (by omega))
            have e_126 : M_117 7 2 = M 7 2 := (f_120 7 2 (by omega))
            have e_127 : M_117 7 3 = M 7 3 := (f_120 7 3 (by omega))
            have e_128 : M_117 7 4 = M 7 4 := (f_120 7 4 (by omega))
            exact g_iret hx hr (dq tX3_readNumber 39 rfl) ⟨by decide, by decide⟩ ⟨(fun u_ v_ huv_ => (f_120 u_ v_ (by omega))), (by unfold RN; exact ⟨by omega, by omega, by omega⟩), (by have w1 := Tc.at g_124; rw [show (M_117 7 2).toNat = a9 by omega]; exact g_124), (am_1 (by omega) (by omega) (fun hc9 => by omega) (by omega)), (by omega)⟩
        · refine g_aload_n (n := 45) hx 1 (dq tX3_readNumber 22 rfl) rfl rfl ?_
          refine g_getR (n := 48) hx glX3_18 (sX3_1 (by decide)) (dq tX3_readNumber 23 rfl) rfl ?_
          refine g_callVv (n := 51) (As := []) (rest := []) hx (ctX7_pass2 Γ M t9 n9 (stp t9 n9 a9) (by omega) (by omega) (Tc.tx ex0)) mlX3_48 (obX7 (by decide)) (dq tX3_readNumber 24 rfl) rfl (Nat.le_of_ble_eq_true rfl) (Nat.le_of_ble_eq_true rfl) (Nat.le_of_ble_eq_true rfl) rfl (fun M_130 p_132 => ?_)
          obtain ⟨f_133, g_134, h_135⟩ := p_132
          have g_136 : Tc M_130 t9 n9 (nx t9 n9 a9) := h_135
          refine g_iload_n (n := 52) hx 0 (dq tX3_readNumber 25 rfl) rfl rfl ?_
          have e_137 : M_130 7 1 = M 7 1 := (f_133 7 1 (by omega))
          have e_138 : M_130 7 5 = M 7 5 := (f_133 7 5 (by omega))
          exact g_iret hx hr (dq tX3_readNumber 26 rfl) h_50 ⟨(fun u_ v_ huv_ => (f_133 u_ v_ (by omega))), (by unfold RN; exact ⟨by omega, by omega, by omega⟩), (by have w1 := Tc.at g_136; rw [show (M_130 7 2).toNat = nx t9 n9 a9 by omega]; exact g_136), (am_ok (v := z_48) (by omega) (by omega) (by omega) (by omega) (by omega) (by omega) (by omega) (by have w1 := Tc.at g_136; omega)), (by omega)⟩
  · refine g_iconst (n := 11) hx (dq tX3_readNumber 4 rfl) rfl ?_
    exact g_iret hx hr (dq tX3_readNumber 5 rfl) ⟨by decide, by decide⟩ ⟨(fun _ _ _ => rfl), (by unfold RN; exact ⟨by omega, by omega, by omega⟩), (by have w1 := Tc.at ex0; rw [show (M 7 2).toNat = a9 by omega]; exact ex0), (oa_stay (by omega) (by omega)), (by omega)⟩

abbrev qctX3_isTooMany2 (M : zM) (kind : Int) (clause : Int) (z : Int) (M' : zM) : Prop := M = M' ∧ 0 ≤ z ∧ z ≤ 1 ∧ (z = 0 → Fit M kind) ∧ (Hid ((z = 1 ∧ ((kind = 0 ∧ clause ≠ 0) ∨ (kind ≠ 0 ∧ clause = 0) ∨ (kind = 1 ∧ M 10 1 = 6) ∨ (kind = 3 ∧ M 10 2 = 4) ∨ (kind = 4 ∧ M 10 3 = 12) ∨ (kind = 5 ∧ M 9 2 = 1))) ∨ (z = 0 ∧ ¬ ((kind = 0 ∧ clause ≠ 0) ∨ (kind ≠ 0 ∧ clause = 0) ∨ (kind = 1 ∧ M 10 1 = 6) ∨ (kind = 3 ∧ M 10 2 = 4) ∨ (kind = 4 ∧ M 10 3 = 12) ∨ (kind = 5 ∧ M 9 2 = 1)))))
set_option maxHeartbeats 4000000 in
set_option maxRecDepth 100000 in
theorem ctX3_isTooMany2 (Γ : Gam) (M : zM) (kind : Int) (hkindl : (-2147483648) ≤ kind) (hkindu : kind ≤ 2147483647) (clause : Int) (hclausel : (-2147483648) ≤ clause) (hclauseu : clause ≤ 2147483647)  : CtI Γ yX3_isTooMany cX3_isTooMany 3 (some .boolean) 0 0 [aR Γ 9, vI kind, vI clause] M (qctX3_isTooMany2 M kind clause) := by
  refine met_i (by decide) (Nat.le_of_ble_eq_true rfl) (fun x hx hr => ?_)
  show G Γ x 3 (QI Γ x (qctX3_isTooMany2 M kind clause)) M 0 [(0, aR Γ 9), (1, vI kind), (2, vI clause)] []
  refine g_iload_n (n := 1) hx 1 (dq tX3_isTooMany 0 rfl) rfl rfl ?_
  refine g_if_ne (n := 4) (t := 8) hx (dq tX3_isTooMany 1 rfl) (by decide) rfl (zrI hkindl hkindu (by decide) (by decide)) (fun c_1 => ?_) (fun c_1 => ?_)
  · refine g_iconst (n := 9) hx (dq tX3_isTooMany 4 rfl) rfl ?_
    refine g_iload_n (n := 10) hx 2 (dq tX3_isTooMany 5 rfl) rfl rfl ?_
    refine g_if_ne (n := 13) (t := 17) hx (dq tX3_isTooMany 6 rfl) (by decide) rfl (zrI hclausel hclauseu (by decide) (by decide)) (fun c_2 => ?_) (fun c_2 => ?_)
    · refine g_iconst (n := 18) hx (dq tX3_isTooMany 9 rfl) rfl ?_
      refine g_icmp_eq (n := 21) (t := 23) hx (dq tX3_isTooMany 10 rfl) (by decide) rfl ⟨by decide, by decide⟩ ⟨by decide, by decide⟩ (fun c_3 => ?_) (fun c_3 => ?_)
      · refine g_iload_n (n := 24) hx 1 (dq tX3_isTooMany 13 rfl) rfl rfl ?_
        by_cases c_4 : kind = 1
        · refine g_swI (t := 60) hx (dq tX3_isTooMany 14 rfl) c_4 (by decide) (by decide) rfl (by decide) ?_
          refine g_aload_n (n := 61) hx 0 (dq tX3_isTooMany 15 rfl) rfl rfl ?_
          refine g_getR (n := 64) hx glX3_12 (sX3_0 (by decide)) (dq tX3_isTooMany 16 rfl) rfl ?_
          refine g_getI (n := 67) hx glX3_58 (sX2_1 (by decide)) (dq tX3_isTooMany 17 rfl) rfl (fun h_5l h_5u => ?_)
          refine g_bipush (n := 69) hx (dq tX3_isTooMany 18 rfl) rfl (by decide) ?_
          refine g_icmp_lt (n := 72) (t := 76) hx (dq tX3_isTooMany 19 rfl) (by decide) rfl (zrI h_5l h_5u (by decide) (by decide)) ⟨by decide, by decide⟩ (fun c_6 => ?_) (fun c_6 => ?_)
          · refine g_iconst (n := 77) hx (dq tX3_isTooMany 22 rfl) rfl ?_
            exact g_zret hx hr (dq tX3_isTooMany 23 rfl) (by omega) ⟨rfl, (by omega), (by omega), (fun hz0 => by unfold Fit; exact ⟨fun hk => by omega, fun hk => by omega, fun hk => by omega⟩), (Hid.mk (by omega))⟩
          · refine g_iconst (n := 73) hx (dq tX3_isTooMany 20 rfl) rfl ?_
            refine g_goto (n := 77) hx (dq tX3_isTooMany 21 rfl) (by decide) ?_
            exact g_zret hx hr (dq tX3_isTooMany 23 rfl) (by omega) ⟨rfl, (by omega), (by omega), (fun hz0 => by unfold Fit; exact ⟨fun hk => by omega, fun hk => by omega, fun hk => by omega⟩), (Hid.mk (by omega))⟩
        by_cases c_7 : kind = 2
        · refine g_swI (t := 118) hx (dq tX3_isTooMany 14 rfl) c_7 (by decide) (by decide) rfl (by decide) ?_
          refine g_iconst (n := 119) hx (dq tX3_isTooMany 45 rfl) rfl ?_
          exact g_zret hx hr (dq tX3_isTooMany 46 rfl) (by omega) ⟨rfl, (by omega), (by omega), (fun hz0 => by unfold Fit; exact ⟨fun hk => by omega, fun hk => by omega, fun hk => by omega⟩), (Hid.mk (by omega))⟩
        by_cases c_8 : kind = 3
        · refine g_swI (t := 78) hx (dq tX3_isTooMany 14 rfl) c_8 (by decide) (by decide) rfl (by decide) ?_
          refine g_aload_n (n := 79) hx 0 (dq tX3_isTooMany 24 rfl) rfl rfl ?_
          refine g_getR (n := 82) hx glX3_12 (sX3_0 (by decide)) (dq tX3_isTooMany 25 rfl) rfl ?_
          refine g_getI (n := 85) hx glX3_61 (sX2_2 (by decide)) (dq tX3_isTooMany 26 rfl) rfl (fun h_9l h_9u => ?_)
          refine g_iconst (n := 86) hx (dq tX3_isTooMany 27 rfl) rfl ?_
          refine g_icmp_lt (n := 89) (t := 93) hx (dq tX3_isTooMany 28 rfl) (by decide) rfl (zrI h_9l h_9u (by decide) (by decide)) ⟨by decide, by decide⟩ (fun c_10 => ?_) (fun c_10 => ?_)
          · refine g_iconst (n := 94) hx (dq tX3_isTooMany 31 rfl) rfl ?_
            exact g_zret hx hr (dq tX3_isTooMany 32 rfl) (by omega) ⟨rfl, (by omega), (by omega), (fun hz0 => by unfold Fit; exact ⟨fun hk => by omega, fun hk => by omega, fun hk => by omega⟩), (Hid.mk (by omega))⟩
          · refine g_iconst (n := 90) hx (dq tX3_isTooMany 29 rfl) rfl ?_
            refine g_goto (n := 94) hx (dq tX3_isTooMany 30 rfl) (by decide) ?_
            exact g_zret hx hr (dq tX3_isTooMany 32 rfl) (by omega) ⟨rfl, (by omega), (by omega), (fun hz0 => by unfold Fit; exact ⟨fun hk => by omega, fun hk => by omega, fun hk => by omega⟩), (Hid.mk (by omega))⟩
        by_cases c_11 : kind = 4
        · refine g_swI (t := 95) hx (dq tX3_isTooMany 14 rfl) c_11 (by decide) (by decide) rfl (by decide) ?_
          refine g_aload_n (n := 96) hx 0 (dq tX3_isTooMany 33 rfl) rfl rfl ?_
          refine g_getR (n := 99) hx glX3_12 (sX3_0 (by decide)) (dq tX3_isTooMany 34 rfl) rfl ?_
          refine g_getI (n := 102) hx glX3_64 (sX2_3 (by decide)) (dq tX3_isTooMany 35 rfl) rfl (fun h_12l h_12u => ?_)
          refine g_bipush (n := 104) hx (dq tX3_isTooMany 36 rfl) rfl (by decide) ?_
          refine g_icmp_lt (n := 107) (t := 111) hx (dq tX3_isTooMany 37 rfl) (by decide) rfl (zrI h_12l h_12u (by decide) (by decide)) ⟨by decide, by decide⟩ (fun c_13 => ?_) (fun c_13 => ?_)
          · refine g_iconst (n := 112) hx (dq tX3_isTooMany 40 rfl) rfl ?_
            exact g_zret hx hr (dq tX3_isTooMany 41 rfl) (by omega) ⟨rfl, (by omega), (by omega), (fun hz0 => by unfold Fit; exact ⟨fun hk => by omega, fun hk => by omega, fun hk => by omega⟩), (Hid.mk (by omega))⟩
          · refine g_iconst (n := 108) hx (dq tX3_isTooMany 38 rfl) rfl ?_
            refine g_goto (n := 112) hx (dq tX3_isTooMany 39 rfl) (by decide) ?_
            exact g_zret hx hr (dq tX3_isTooMany 41 rfl) (by omega) ⟨rfl, (by omega), (by omega), (fun hz0 => by unfold Fit; exact ⟨fun hk => by omega, fun hk => by omega, fun hk => by omega⟩), (Hid.mk (by omega))⟩
        by_cases c_14 : kind = 5
        · refine g_swI (t := 113) hx (dq tX3_isTooMany 14 rfl) c_14 (by decide) (by decide) rfl (by decide) ?_
          refine g_aload_n (n := 114) hx 0 (dq tX3_isTooMany 42 rfl) rfl rfl ?_
          refine g_getI (n := 117) hx glX3_25 (sX3_2 (by decide)) (dq tX3_isTooMany 43 rfl) rfl (fun h_15l h_15u => ?_)
          exact g_zret hx hr (dq tX3_isTooMany 44 rfl) (by omega) ⟨rfl, (by omega), (by omega), (fun hz0 => by unfold Fit; exact ⟨fun hk => by omega, fun hk => by omega, fun hk => by omega⟩), (Hid.mk (by omega))⟩
        refine g_swO (t := 118) hx (dq tX3_isTooMany 14 rfl) (zrI hkindl hkindu (by decide) (by decide)) (by omega) (by decide) ?_
        refine g_iconst (n := 119) hx (dq tX3_isTooMany 45 rfl) rfl ?_
        exact g_zret hx hr (dq tX3_isTooMany 46 rfl) (by omega) ⟨rfl, (by omega), (by omega), (fun hz0 => by unfold Fit; exact ⟨fun hk => by omega, fun hk => by omega, fun hk => by omega⟩), (Hid.mk (by omega))⟩
      · omega
    · refine g_iconst (n := 14) hx (dq tX3_isTooMany 7 rfl) rfl ?_
      refine g_goto (n := 18) hx (dq tX3_isTooMany 8 rfl) (by decide) ?_
      refine g_icmp_eq (n := 21) (t := 23) hx (dq tX3_isTooMany 10 rfl) (by decide) rfl ⟨by decide, by decide⟩ ⟨by decide, by decide⟩ (fun c_16 => ?_) (fun c_16 => ?_)
      · omega
      · refine g_iconst (n := 22) hx (dq tX3_isTooMany 11 rfl) rfl ?_
        exact g_zret hx hr (dq tX3_isTooMany 12 rfl) (by omega) ⟨rfl, (by omega), (by omega), (fun hz0 => by unfold Fit; exact ⟨fun hk => by omega, fun hk => by omega, fun hk => by omega⟩), (Hid.mk (by omega))⟩
  · refine g_iconst (n := 5) hx (dq tX3_isTooMany 2 rfl) rfl ?_
    refine g_goto (n := 9) hx (dq tX3_isTooMany 3 rfl) (by decide) ?_
    refine g_iload_n (n := 10) hx 2 (dq tX3_isTooMany 5 rfl) rfl rfl ?_
    refine g_if_ne (n := 13) (t := 17) hx (dq tX3_isTooMany 6 rfl) (by decide) rfl (zrI hclausel hclauseu (by decide) (by decide)) (fun c_17 => ?_) (fun c_17 => ?_)
    · refine g_iconst (n := 18) hx (dq tX3_isTooMany 9 rfl) rfl ?_
      refine g_icmp_eq (n := 21) (t := 23) hx (dq tX3_isTooMany 10 rfl) (by decide) rfl ⟨by decide, by decide⟩ ⟨by decide, by decide⟩ (fun c_18 => ?_) (fun c_18 => ?_)
      · omega
      · refine g_iconst (n := 22) hx (dq tX3_isTooMany 11 rfl) rfl ?_
        exact g_zret hx hr (dq tX3_isTooMany 12 rfl) (by omega) ⟨rfl, (by omega), (by omega), (fun hz0 => by unfold Fit; exact ⟨fun hk => by omega, fun hk => by omega, fun hk => by omega⟩), (Hid.mk (by omega))⟩
    · refine g_iconst (n := 14) hx (dq tX3_isTooMany 7 rfl) rfl ?_
      refine g_goto (n := 18) hx (dq tX3_isTooMany 8 rfl) (by decide) ?_
      refine g_icmp_eq (n := 21) (t := 23) hx (dq tX3_isTooMany 10 rfl) (by decide) rfl ⟨by decide, by decide⟩ ⟨by decide, by decide⟩ (fun c_19 => ?_) (fun c_19 => ?_)
      · refine g_iload_n (n := 24) hx 1 (dq tX3_isTooMany 13 rfl) rfl rfl ?_
        refine g_swO (t := 118) hx (dq tX3_isTooMany 14 rfl) (zrI hkindl hkindu (by decide) (by decide)) (by omega) (by decide) ?_
        refine g_iconst (n := 119) hx (dq tX3_isTooMany 45 rfl) rfl ?_
        exact g_zret hx hr (dq tX3_isTooMany 46 rfl) (by omega) ⟨rfl, (by omega), (by omega), (fun hz0 => by unfold Fit; exact ⟨fun hk => by omega, fun hk => by omega, fun hk => by omega⟩), (Hid.mk (by omega))⟩
      · omega

abbrev qctX3_readsClause2 (M : zM) (kind : Int) (t9 : Nat → Int) (n9 : Nat) (a9 : Nat) (z : Int) (M' : zM) : Prop := (∀ u_ v_, (u_ ≠ 7 ∨ v_ ≠ 2) ∧ (u_ ≠ 7 ∨ v_ ≠ 3) ∧ (u_ ≠ 7 ∨ v_ ≠ 4) ∧ (u_ ≠ 7 ∨ v_ ≠ 5) ∧ (u_ < 10 ∨ 10 + 8 ≤ u_) ∧ (u_ ≠ 9 ∨ v_ ≠ 2) → M' u_ v_ = M u_ v_) ∧ RvI M' ∧ 0 ≤ z ∧ z ≤ 1 ∧ (z = 1 → M' 7 5 = 0) ∧ (z = 0 → M' 7 5 ≠ 0) ∧ (Tc M' t9 n9 (M' 7 2).toNat) ∧ (oa (M' 7 5) (M' 7 2).toNat = Rp9 t9 n9 kind (M 10 0) (M 10 1) (M 10 2) a9) ∧ (M' 7 5 = 0 → sv M' = up9 (nv t9 a9 (stp t9 n9 a9 - a9)) kind (sv M))
set_option maxHeartbeats 4000000 in
set_option maxRecDepth 100000 in
theorem ctX3_readsClause2 (Γ : Gam) (M : zM) (kind : Int) (hkindl : 0 ≤ kind) (hkindu : kind ≤ 5) (t9 : Nat → Int) (n9 : Nat) (a9 : Nat) (pre0 : M 7 5 = 0) (ex0 : Tc M t9 n9 a9) (ex1 : Fit M kind) (rv : RvI M) : CtI Γ yX3_readsClause cX3_readsClause 4 (some .boolean) 2 46 [aR Γ 9, vI kind] M (qctX3_readsClause2 M kind t9 n9 a9) := by
  refine met_i (by decide) (Nat.le_of_ble_eq_true rfl) (fun x hx hr => ?_)
  show G Γ x 4 (QI Γ x (qctX3_readsClause2 M kind t9 n9 a9)) M 0 [(0, aR Γ 9), (1, vI kind)] []
  have ht_at := Tc.at ex0
  have ht_fst := Tc.fst ex0
  have ht_le := Tc.le ex0
  have ht_stop := Tc.stop ex0
  have ht_sle := Tc.sle ex0
  have ht_n := (Tc.tx ex0).1
  have ht_r := stp_le t9 n9 a9 ht_le
  refine g_iload_n (n := 1) hx 1 (dq tX3_readsClause 0 rfl) rfl rfl ?_
  by_cases c_1 : kind = 0
  · refine g_swI (t := 36) hx (dq tX3_readsClause 1 rfl) c_1 (by decide) (by decide) rfl (by decide) ?_
    refine g_aload_n (n := 37) hx 0 (dq tX3_readsClause 2 rfl) rfl rfl ?_
    refine g_getR (n := 40) hx glX3_12 (sX3_0 (by decide)) (dq tX3_readsClause 3 rfl) rfl ?_
    refine g_aload_n (n := 41) hx 0 (dq tX3_readsClause 4 rfl) rfl rfl ?_
    refine g_iconst (n := 42) hx (dq tX3_readsClause 5 rfl) rfl ?_
    refine g_bipush (n := 44) hx (dq tX3_readsClause 6 rfl) rfl (by decide) ?_
    refine g_callVi (n := 47) (As := [vI 2, vI 9]) (rest := [aR Γ 10]) hx (ctX3_readNumber2 Γ M 2 (by decide) (by decide) 9 (by decide) (by decide) t9 n9 a9 ex0) mlX3_67 (obX3 (by decide)) (dq tX3_readsClause 7 rfl) rfl (Nat.le_of_ble_eq_true rfl) (Nat.le_of_ble_eq_true rfl) (Nat.le_of_ble_eq_true rfl) rfl (fun z_2 M_3 h_4 p_5 => ?_)
    obtain ⟨f_6, h_7, h_8, h_9, h_10⟩ := p_5
    have g_11 : RvI M_3 := fun hf => RvOk.out (rv (h_7.2.1 hf)) (fun u v h1 h2 => f_6 u v (by omega))
    have h_121 := RN.lo h_7 (by omega)
    have h_122 := RN.hi (K := 9) h_7 (by omega) (by decide)
    have e_13 : M_3 10 0 = M 10 0 := (f_6 10 0 (by omega))
    have e_14 : M_3 10 1 = M 10 1 := (f_6 10 1 (by omega))
    have e_15 : M_3 10 2 = M 10 2 := (f_6 10 2 (by omega))
    have e_16 : M_3 10 3 = M 10 3 := (f_6 10 3 (by omega))
    have e_17 : M_3 9 2 = M 9 2 := (f_6 9 2 (by omega))
    have e_18 : M_3 7 1 = M 7 1 := (f_6 7 1 (by omega))
    refine g_putI (n := 50) hx plX3_71 (sX2_0 (by decide)) (dq tX3_readsClause 8 rfl) rfl (by omega) (by omega) (fun M_19 m_20e m_20 => ?_)
    have g_21 : RvI M_19 := fun hf => RvOk.put (j := 0) (g_11 ((m_20 7 5 (by omega)).symm.trans hf)) (by decide) (by decide) m_20
    have g_22 : Tc M_19 t9 n9 ((M_3 7 2).toNat) := Tc.frame h_8 (fun c j hcj => m_20 c j (by omega))
    refine g_goto (n := 314) hx (dq tX3_readsClause 9 rfl) (by decide) ?_
    refine g_aload_n (n := 315) hx 0 (dq tX3_readsClause 146 rfl) rfl rfl ?_
    refine g_getR (n := 318) hx glX3_18 (sX3_1 (by decide)) (dq tX3_readsClause 147 rfl) rfl ?_
    refine g_getI (n := 321) hx glX3_99 (sX7_5 (by decide)) (dq tX3_readsClause 148 rfl) rfl (fun h_23l h_23u => ?_)
    have e_24 : M_19 7 5 = M_3 7 5 := (m_20 7 5 (by omega))
    refine g_if_ne (n := 324) (t := 328) hx (dq tX3_readsClause 149 rfl) (by decide) rfl (zrI h_23l h_23u (by decide) (by decide)) (fun c_25 => ?_) (fun c_25 => ?_)
    · refine g_iconst (n := 329) hx (dq tX3_readsClause 152 rfl) rfl ?_
      have e_26 : M_19 10 1 = M_3 10 1 := (m_20 10 1 (by omega))
      have e_27 : M_19 10 2 = M_3 10 2 := (m_20 10 2 (by omega))
      have e_28 : M_19 10 3 = M_3 10 3 := (m_20 10 3 (by omega))
      have e_29 : M_19 9 2 = M_3 9 2 := (m_20 9 2 (by omega))
      have e_30 : M_19 7 1 = M_3 7 1 := (m_20 7 1 (by omega))
      have e_31 : M_19 7 2 = M_3 7 2 := (m_20 7 2 (by omega))
      have e_32 : M_19 7 3 = M_3 7 3 := (m_20 7 3 (by omega))
      have e_33 : M_19 7 4 = M_3 7 4 := (m_20 7 4 (by omega))
      exact g_zret hx hr (dq tX3_readsClause 153 rfl) (by omega) ⟨(fun u_ v_ huv_ => ((m_20 u_ v_ (by omega)).trans (f_6 u_ v_ (by omega)))), g_21, (by omega), (by omega), (by omega), (by omega), (by have w1 := Tc.at g_22; rw [show (M_19 7 2).toNat = (M_3 7 2).toNat by omega]; exact g_22), (rp_0 (by omega) (by omega) h_9 (by omega) (by omega)), (fun h0 => up_eq (by omega) (by omega) (by omega) (by omega) (by omega))⟩
    · refine g_iconst (n := 325) hx (dq tX3_readsClause 150 rfl) rfl ?_
      refine g_goto (n := 329) hx (dq tX3_readsClause 151 rfl) (by decide) ?_
      have e_34 : M_19 10 1 = M_3 10 1 := (m_20 10 1 (by omega))
      have e_35 : M_19 10 2 = M_3 10 2 := (m_20 10 2 (by omega))
      have e_36 : M_19 10 3 = M_3 10 3 := (m_20 10 3 (by omega))
      have e_37 : M_19 9 2 = M_3 9 2 := (m_20 9 2 (by omega))
      have e_38 : M_19 7 1 = M_3 7 1 := (m_20 7 1 (by omega))
      have e_39 : M_19 7 2 = M_3 7 2 := (m_20 7 2 (by omega))
      have e_40 : M_19 7 3 = M_3 7 3 := (m_20 7 3 (by omega))
      have e_41 : M_19 7 4 = M_3 7 4 := (m_20 7 4 (by omega))
      exact g_zret hx hr (dq tX3_readsClause 153 rfl) (by omega) ⟨(fun u_ v_ huv_ => ((m_20 u_ v_ (by omega)).trans (f_6 u_ v_ (by omega)))), g_21, (by omega), (by omega), (by omega), (by omega), (by have w1 := Tc.at g_22; rw [show (M_19 7 2).toNat = (M_3 7 2).toNat by omega]; exact g_22), (rp_0 (by omega) (by omega) h_9 (by omega) (by omega)), (fun h0 => up_eq (by omega) (by omega) (by omega) (by omega) (by omega))⟩
  by_cases c_42 : kind = 1
  · have hfit := ex1.1 c_42
    refine g_swI (t := 53) hx (dq tX3_readsClause 1 rfl) c_42 (by decide) (by decide) rfl (by decide) ?_
    refine g_aload_n (n := 54) hx 0 (dq tX3_readsClause 10 rfl) rfl rfl ?_
    refine g_getR (n := 57) hx glX3_12 (sX3_0 (by decide)) (dq tX3_readsClause 11 rfl) rfl ?_
    refine g_getR (n := 60) hx glX3_74 (sX2_5 (by decide)) (dq tX3_readsClause 12 rfl) rfl ?_
    refine g_aload_n (n := 61) hx 0 (dq tX3_readsClause 13 rfl) rfl rfl ?_
    refine g_getR (n := 64) hx glX3_12 (sX3_0 (by decide)) (dq tX3_readsClause 14 rfl) rfl ?_
    refine g_getI (n := 67) hx glX3_58 (sX2_1 (by decide)) (dq tX3_readsClause 15 rfl) rfl (fun h_43l h_43u => ?_)
    refine g_aload_n (n := 68) hx 0 (dq tX3_readsClause 16 rfl) rfl rfl ?_
    refine g_iconst (n := 69) hx (dq tX3_readsClause 17 rfl) rfl ?_
    refine g_aload_n (n := 70) hx 0 (dq tX3_readsClause 18 rfl) rfl rfl ?_
    refine g_getR (n := 73) hx glX3_12 (sX3_0 (by decide)) (dq tX3_readsClause 19 rfl) rfl ?_
    refine g_getI (n := 76) hx glX3_71 (sX2_0 (by decide)) (dq tX3_readsClause 20 rfl) rfl (fun h_44l h_44u => ?_)
    refine g_iconst (n := 77) hx (dq tX3_readsClause 21 rfl) rfl ?_
    refine g_isub (n := 78) hx (dq tX3_readsClause 22 rfl) rfl ?_
    refine g_callVi (n := 81) (As := [vI 0, vI ((M 10 0) - 1)]) (rest := [vI (M 10 1), aR Γ (10 + 1)]) hx (ctX3_readNumber2 Γ M 0 (by decide) (by decide) ((M 10 0) - 1) (by omega) (by omega) t9 n9 a9 ex0) mlX3_67 (obX3 (by decide)) (dq tX3_readsClause 23 rfl) rfl (Nat.le_of_ble_eq_true rfl) (Nat.le_of_ble_eq_true rfl) (Nat.le_of_ble_eq_true rfl) rfl (fun z_45 M_46 h_47 p_48 => ?_)
    obtain ⟨f_49, h_50, h_51, h_52, h_53⟩ := p_48
    have g_54 : RvI M_46 := fun hf => RvOk.out (rv (h_50.2.1 hf)) (fun u v h1 h2 => f_49 u v (by omega))
    have h_551 := RN.lo h_50 (by omega)
    have h_552 := RN.hi (K := 8) h_50 (by omega) (by decide)
    have e_56 : M_46 10 0 = M 10 0 := (f_49 10 0 (by omega))
    have e_57 : M_46 10 1 = M 10 1 := (f_49 10 1 (by omega))
    have e_58 : M_46 10 2 = M 10 2 := (f_49 10 2 (by omega))
    have e_59 : M_46 10 3 = M 10 3 := (f_49 10 3 (by omega))
    have e_60 : M_46 9 2 = M 9 2 := (f_49 9 2 (by omega))
    have e_61 : M_46 7 1 = M 7 1 := (f_49 7 1 (by omega))
    refine g_iast (n := 82) (q := (M 10 1).toNat) hx (aX2_5 (b := 10) (by decide)) (dq tX3_readsClause 24 rfl) rfl (by omega) (by omega) (by omega) rfl (by omega) (by omega) (fun M_62 m_63e m_63 => ?_)
    have g_64 : RvI M_62 := fun hf => RvOk.row (k := 1) (i := (M 10 1).toNat) (g_54 ((m_63 7 5 (by omega)).symm.trans hf)) (by omega) m_63
    have g_65 : Tc M_62 t9 n9 ((M_46 7 2).toNat) := Tc.frame h_51 (fun c j hcj => m_63 c j (by omega))
    refine g_aload_n (n := 83) hx 0 (dq tX3_readsClause 25 rfl) rfl rfl ?_
    refine g_getR (n := 86) hx glX3_12 (sX3_0 (by decide)) (dq tX3_readsClause 26 rfl) rfl ?_
    refine g_dup (n := 87) hx (dq tX3_readsClause 27 rfl) rfl rfl ?_
    refine g_getI (n := 90) hx glX3_58 (sX2_1 (by decide)) (dq tX3_readsClause 28 rfl) rfl (fun h_66l h_66u => ?_)
    have e_67 : M_62 10 1 = M_46 10 1 := (m_63 10 1 (by omega))
    refine g_iconst (n := 91) hx (dq tX3_readsClause 29 rfl) rfl ?_
    refine g_iadd (n := 92) hx (dq tX3_readsClause 30 rfl) rfl ?_
    have e_68 : M_62 10 0 = M_46 10 0 := (m_63 10 0 (by omega))
    have e_69 : M_62 10 2 = M_46 10 2 := (m_63 10 2 (by omega))
    have e_70 : M_62 10 3 = M_46 10 3 := (m_63 10 3 (by omega))
    have e_71 : M_62 9 2 = M_46 9 2 := (m_63 9 2 (by omega))
    have e_72 : M_62 7 5 = M_46 7 5 := (m_63 7 5 (by omega))
    have e_73 : M_62 7 1 = M_46 7 1 := (m_63 7 1 (by omega))
    have e_74 : M_62 7 2 = M_46 7 2 := (m_63 7 2 (by omega))
    have e_75 : M_62 7 3 = M_46 7 3 := (m_63 7 3 (by omega))
    have e_76 : M_62 7 4 = M_46 7 4 := (m_63 7 4 (by omega))
    refine g_putI (n := 95) hx plX3_58 (sX2_1 (by decide)) (dq tX3_readsClause 31 rfl) rfl (by omega) (by omega) (fun M_77 m_78e m_78 => ?_)
    have g_79 : RvI M_77 := by
      intro hf
      have q5 := (m_78 7 5 (by omega) : M_77 7 5 = M_62 7 5)
      have a1 := m_63e
      have a1z : M_46 7 5 = 0 := by
        have w0 : M_62 7 5 = 0 := by omega
        have w1 : M_46 7 5 = 0 := (m_63 7 5 (by omega)).symm.trans w0
        exact w1
      have a1r := h_50.1 a1z
      exact RvOk.village (i := (M 10 1).toNat) (g_64 (by omega)) (by omega) (by omega) (by omega) m_78
    have g_80 : Tc M_77 t9 n9 ((M_46 7 2).toNat) := Tc.frame g_65 (fun c j hcj => m_78 c j (by omega))
    refine g_goto (n := 314) hx (dq tX3_readsClause 32 rfl) (by decide) ?_
    refine g_aload_n (n := 315) hx 0 (dq tX3_readsClause 146 rfl) rfl rfl ?_
    refine g_getR (n := 318) hx glX3_18 (sX3_1 (by decide)) (dq tX3_readsClause 147 rfl) rfl ?_
    refine g_getI (n := 321) hx glX3_99 (sX7_5 (by decide)) (dq tX3_readsClause 148 rfl) rfl (fun h_81l h_81u => ?_)
    have e_82 : M_77 7 5 = M_62 7 5 := (m_78 7 5 (by omega))
    refine g_if_ne (n := 324) (t := 328) hx (dq tX3_readsClause 149 rfl) (by decide) rfl (zrI h_81l h_81u (by decide) (by decide)) (fun c_83 => ?_) (fun c_83 => ?_)
    · refine g_iconst (n := 329) hx (dq tX3_readsClause 152 rfl) rfl ?_
      have e_84 : M_77 10 0 = M_62 10 0 := (m_78 10 0 (by omega))
      have e_85 : M_77 10 2 = M_62 10 2 := (m_78 10 2 (by omega))
      have e_86 : M_77 10 3 = M_62 10 3 := (m_78 10 3 (by omega))
      have e_87 : M_77 9 2 = M_62 9 2 := (m_78 9 2 (by omega))
      have e_88 : M_77 7 1 = M_62 7 1 := (m_78 7 1 (by omega))
      have e_89 : M_77 7 2 = M_62 7 2 := (m_78 7 2 (by omega))
      have e_90 : M_77 7 3 = M_62 7 3 := (m_78 7 3 (by omega))
      have e_91 : M_77 7 4 = M_62 7 4 := (m_78 7 4 (by omega))
      exact g_zret hx hr (dq tX3_readsClause 153 rfl) (by omega) ⟨(fun u_ v_ huv_ => (((m_78 u_ v_ (by omega)).trans (m_63 u_ v_ (by omega))).trans (f_49 u_ v_ (by omega)))), g_79, (by omega), (by omega), (by omega), (by omega), (by have w1 := Tc.at g_80; rw [show (M_77 7 2).toNat = (M_46 7 2).toNat by omega]; exact g_80), (rp_1 (by omega) (by omega) h_52 (by omega) (by omega) (by omega)), (fun h0 => up_eq (by omega) (by omega) (by omega) (by omega) (by omega))⟩
    · refine g_iconst (n := 325) hx (dq tX3_readsClause 150 rfl) rfl ?_
      refine g_goto (n := 329) hx (dq tX3_readsClause 151 rfl) (by decide) ?_
      have e_92 : M_77 10 0 = M_62 10 0 := (m_78 10 0 (by omega))
      have e_93 : M_77 10 2 = M_62 10 2 := (m_78 10 2 (by omega))
      have e_94 : M_77 10 3 = M_62 10 3 := (m_78 10 3 (by omega))
      have e_95 : M_77 9 2 = M_62 9 2 := (m_78 9 2 (by omega))
      have e_96 : M_77 7 1 = M_62 7 1 := (m_78 7 1 (by omega))
      have e_97 : M_77 7 2 = M_62 7 2 := (m_78 7 2 (by omega))
      have e_98 : M_77 7 3 = M_62 7 3 := (m_78 7 3 (by omega))
      have e_99 : M_77 7 4 = M_62 7 4 := (m_78 7 4 (by omega))
      exact g_zret hx hr (dq tX3_readsClause 153 rfl) (by omega) ⟨(fun u_ v_ huv_ => (((m_78 u_ v_ (by omega)).trans (m_63 u_ v_ (by omega))).trans (f_49 u_ v_ (by omega)))), g_79, (by omega), (by omega), (by omega), (by omega), (by have w1 := Tc.at g_80; rw [show (M_77 7 2).toNat = (M_46 7 2).toNat by omega]; exact g_80), (rp_1 (by omega) (by omega) h_52 (by omega) (by omega) (by omega)), (fun h0 => up_eq (by omega) (by omega) (by omega) (by omega) (by omega))⟩
  by_cases c_100 : kind = 2
  · refine g_swI (t := 98) hx (dq tX3_readsClause 1 rfl) c_100 (by decide) (by decide) rfl (by decide) ?_
    refine g_aload_n (n := 99) hx 0 (dq tX3_readsClause 33 rfl) rfl rfl ?_
    refine g_iconst (n := 100) hx (dq tX3_readsClause 34 rfl) rfl ?_
    refine g_aload_n (n := 101) hx 0 (dq tX3_readsClause 35 rfl) rfl rfl ?_
    refine g_getR (n := 104) hx glX3_12 (sX3_0 (by decide)) (dq tX3_readsClause 36 rfl) rfl ?_
    refine g_getI (n := 107) hx glX3_71 (sX2_0 (by decide)) (dq tX3_readsClause 37 rfl) rfl (fun h_101l h_101u => ?_)
    refine g_iconst (n := 108) hx (dq tX3_readsClause 38 rfl) rfl ?_
    refine g_isub (n := 109) hx (dq tX3_readsClause 39 rfl) rfl ?_
    refine g_callVi (n := 112) (As := [vI 0, vI ((M 10 0) - 1)]) (rest := []) hx (ctX3_readNumber2 Γ M 0 (by decide) (by decide) ((M 10 0) - 1) (by omega) (by omega) t9 n9 a9 ex0) mlX3_67 (obX3 (by decide)) (dq tX3_readsClause 40 rfl) rfl (Nat.le_of_ble_eq_true rfl) (Nat.le_of_ble_eq_true rfl) (Nat.le_of_ble_eq_true rfl) rfl (fun z_102 M_103 h_104 p_105 => ?_)
    obtain ⟨f_106, h_107, h_108, h_109, h_110⟩ := p_105
    have g_111 : RvI M_103 := fun hf => RvOk.out (rv (h_107.2.1 hf)) (fun u v h1 h2 => f_106 u v (by omega))
    have h_1121 := RN.lo h_107 (by omega)
    have h_1122 := RN.hi (K := 8) h_107 (by omega) (by decide)
    refine g_istore_n (n := 113) (lv' := [(2, vI z_102), (0, aR Γ 9), (1, vI kind)]) hx (dq tX3_readsClause 41 rfl) (by decide) rfl rfl ?_
    refine g_aload_n (n := 114) hx 1 (dq tX3_readsClause 42 rfl) rfl rfl ?_
    refine g_iconst (n := 115) hx (dq tX3_readsClause 43 rfl) rfl ?_
    refine g_bipush (n := 117) hx (dq tX3_readsClause 44 rfl) rfl (by decide) ?_
    have e_113 : M_103 10 0 = M 10 0 := (f_106 10 0 (by omega))
    have e_114 : M_103 10 1 = M 10 1 := (f_106 10 1 (by omega))
    have e_115 : M_103 10 2 = M 10 2 := (f_106 10 2 (by omega))
    have e_116 : M_103 10 3 = M 10 3 := (f_106 10 3 (by omega))
    have e_117 : M_103 9 2 = M 9 2 := (f_106 9 2 (by omega))
    have e_118 : M_103 7 1 = M 7 1 := (f_106 7 1 (by omega))
    refine g_callVi (n := 120) (As := [vI 1, vI 9]) (rest := []) hx (ctX3_readNumber2 Γ M_103 1 (by decide) (by decide) 9 (by decide) (by decide) t9 n9 ((M_103 7 2).toNat) h_108) mlX3_67 (obX3 (by decide)) (dq tX3_readsClause 45 rfl) rfl (Nat.le_of_ble_eq_true rfl) (Nat.le_of_ble_eq_true rfl) (Nat.le_of_ble_eq_true rfl) rfl (fun z_119 M_120 h_121 p_122 => ?_)
    obtain ⟨f_123, h_124, h_125, h_126, h_127⟩ := p_122
    have g_128 : RvI M_120 := fun hf => RvOk.out (g_111 (h_124.2.1 hf)) (fun u v h1 h2 => f_123 u v (by omega))
    have h_1291 := RN.lo h_124 (by omega)
    have h_1292 := RN.hi (K := 9) h_124 (by omega) (by decide)
    refine g_istore_n (n := 121) (lv' := [(3, vI z_119), (2, vI z_102), (0, aR Γ 9), (1, vI kind)]) hx (dq tX3_readsClause 46 rfl) (by decide) rfl rfl ?_
    refine g_iload_n (n := 122) hx 1 (dq tX3_readsClause 47 rfl) rfl rfl ?_
    refine g_iconst (n := 123) hx (dq tX3_readsClause 48 rfl) rfl ?_
    refine g_icmp_eq (n := 126) (t := 314) hx (dq tX3_readsClause 49 rfl) (by decide) rfl h_104 ⟨by decide, by decide⟩ (fun c_130 => ?_) (fun c_130 => ?_)
    · refine g_aload_n (n := 315) hx 2 (dq tX3_readsClause 146 rfl) rfl rfl ?_
      refine g_getR (n := 318) hx glX3_18 (sX3_1 (by decide)) (dq tX3_readsClause 147 rfl) rfl ?_
      refine g_getI (n := 321) hx glX3_99 (sX7_5 (by decide)) (dq tX3_readsClause 148 rfl) rfl (fun h_131l h_131u => ?_)
      refine g_if_ne (n := 324) (t := 328) hx (dq tX3_readsClause 149 rfl) (by decide) rfl (zrI h_131l h_131u (by decide) (by decide)) (fun c_132 => ?_) (fun c_132 => ?_)
      · refine g_iconst (n := 329) hx (dq tX3_readsClause 152 rfl) rfl ?_
        have e_133 : M_120 10 0 = M_103 10 0 := (f_123 10 0 (by omega))
        have e_134 : M_120 10 1 = M_103 10 1 := (f_123 10 1 (by omega))
        have e_135 : M_120 10 2 = M_103 10 2 := (f_123 10 2 (by omega))
        have e_136 : M_120 10 3 = M_103 10 3 := (f_123 10 3 (by omega))
        have e_137 : M_120 9 2 = M_103 9 2 := (f_123 9 2 (by omega))
        have e_138 : M_120 7 1 = M_103 7 1 := (f_123 7 1 (by omega))
        exact g_zret hx hr (dq tX3_readsClause 153 rfl) (by omega) ⟨(fun u_ v_ huv_ => ((f_123 u_ v_ (by omega)).trans (f_106 u_ v_ (by omega)))), g_128, (by omega), (by omega), (by omega), (by omega), (by have w1 := Tc.at h_125; rw [show (M_120 7 2).toNat = (M_120 7 2).toNat by omega]; exact h_125), (rp_2 (by omega) (by omega) h_109 h_126 (by omega) (by omega) (by omega) (by omega) (by omega)), (fun h0 => up_eq (by omega) (by omega) (by omega) (by omega) (by omega))⟩
      · refine g_iconst (n := 325) hx (dq tX3_readsClause 150 rfl) rfl ?_
        refine g_goto (n := 329) hx (dq tX3_readsClause 151 rfl) (by decide) ?_
        have e_139 : M_120 10 0 = M_103 10 0 := (f_123 10 0 (by omega))
        have e_140 : M_120 10 1 = M_103 10 1 := (f_123 10 1 (by omega))
        have e_141 : M_120 10 2 = M_103 10 2 := (f_123 10 2 (by omega))
        have e_142 : M_120 10 3 = M_103 10 3 := (f_123 10 3 (by omega))
        have e_143 : M_120 9 2 = M_103 9 2 := (f_123 9 2 (by omega))
        have e_144 : M_120 7 1 = M_103 7 1 := (f_123 7 1 (by omega))
        exact g_zret hx hr (dq tX3_readsClause 153 rfl) (by omega) ⟨(fun u_ v_ huv_ => ((f_123 u_ v_ (by omega)).trans (f_106 u_ v_ (by omega)))), g_128, (by omega), (by omega), (by omega), (by omega), (by have w1 := Tc.at h_125; rw [show (M_120 7 2).toNat = (M_120 7 2).toNat by omega]; exact h_125), (rp_2 (by omega) (by omega) h_109 h_126 (by omega) (by omega) (by omega) (by omega) (by omega)), (fun h0 => up_eq (by omega) (by omega) (by omega) (by omega) (by omega))⟩
    · refine g_aload_n (n := 127) hx 2 (dq tX3_readsClause 50 rfl) rfl rfl ?_
      refine g_getR (n := 130) hx glX3_12 (sX3_0 (by decide)) (dq tX3_readsClause 51 rfl) rfl ?_
      refine g_getR (n := 133) hx glX3_78 (sX2_6 (by decide)) (dq tX3_readsClause 52 rfl) rfl ?_
      refine g_iload_n (n := 134) hx 1 (dq tX3_readsClause 53 rfl) rfl rfl ?_
      refine g_iload_n (n := 135) hx 0 (dq tX3_readsClause 54 rfl) rfl rfl ?_
      have e_145 : M_120 10 0 = M_103 10 0 := (f_123 10 0 (by omega))
      have e_146 : M_120 10 1 = M_103 10 1 := (f_123 10 1 (by omega))
      have e_147 : M_120 10 2 = M_103 10 2 := (f_123 10 2 (by omega))
      have e_148 : M_120 10 3 = M_103 10 3 := (f_123 10 3 (by omega))
      have e_149 : M_120 9 2 = M_103 9 2 := (f_123 9 2 (by omega))
      have e_150 : M_120 7 1 = M_103 7 1 := (f_123 7 1 (by omega))
      refine g_iast (n := 136) (q := z_102.toNat) hx (aX2_6 (b := 10) (by decide)) (dq tX3_readsClause 55 rfl) rfl (by omega) (by omega) (by omega) rfl (by omega) (by omega) (fun M_151 m_152e m_152 => ?_)
      have g_153 : RvI M_151 := fun hf => RvOk.row (k := 2) (i := z_102.toNat) (g_128 ((m_152 7 5 (by omega)).symm.trans hf)) (by omega) m_152
      have g_154 : Tc M_151 t9 n9 ((M_120 7 2).toNat) := Tc.frame h_125 (fun c j hcj => m_152 c j (by omega))
      refine g_goto (n := 314) hx (dq tX3_readsClause 56 rfl) (by decide) ?_
      refine g_aload_n (n := 315) hx 2 (dq tX3_readsClause 146 rfl) rfl rfl ?_
      refine g_getR (n := 318) hx glX3_18 (sX3_1 (by decide)) (dq tX3_readsClause 147 rfl) rfl ?_
      refine g_getI (n := 321) hx glX3_99 (sX7_5 (by decide)) (dq tX3_readsClause 148 rfl) rfl (fun h_155l h_155u => ?_)
      have e_156 : M_151 7 5 = M_120 7 5 := (m_152 7 5 (by omega))
      refine g_if_ne (n := 324) (t := 328) hx (dq tX3_readsClause 149 rfl) (by decide) rfl (zrI h_155l h_155u (by decide) (by decide)) (fun c_157 => ?_) (fun c_157 => ?_)
      · refine g_iconst (n := 329) hx (dq tX3_readsClause 152 rfl) rfl ?_
        have e_158 : M_151 10 0 = M_120 10 0 := (m_152 10 0 (by omega))
        have e_159 : M_151 10 1 = M_120 10 1 := (m_152 10 1 (by omega))
        have e_160 : M_151 10 2 = M_120 10 2 := (m_152 10 2 (by omega))
        have e_161 : M_151 10 3 = M_120 10 3 := (m_152 10 3 (by omega))
        have e_162 : M_151 9 2 = M_120 9 2 := (m_152 9 2 (by omega))
        have e_163 : M_151 7 1 = M_120 7 1 := (m_152 7 1 (by omega))
        have e_164 : M_151 7 2 = M_120 7 2 := (m_152 7 2 (by omega))
        have e_165 : M_151 7 3 = M_120 7 3 := (m_152 7 3 (by omega))
        have e_166 : M_151 7 4 = M_120 7 4 := (m_152 7 4 (by omega))
        exact g_zret hx hr (dq tX3_readsClause 153 rfl) (by omega) ⟨(fun u_ v_ huv_ => (((m_152 u_ v_ (by omega)).trans (f_123 u_ v_ (by omega))).trans (f_106 u_ v_ (by omega)))), g_153, (by omega), (by omega), (by omega), (by omega), (by have w1 := Tc.at g_154; rw [show (M_151 7 2).toNat = (M_120 7 2).toNat by omega]; exact g_154), (rp_2 (by omega) (by omega) h_109 h_126 (by omega) (by omega) (by omega) (by omega) (by omega)), (fun h0 => up_eq (by omega) (by omega) (by omega) (by omega) (by omega))⟩
      · refine g_iconst (n := 325) hx (dq tX3_readsClause 150 rfl) rfl ?_
        refine g_goto (n := 329) hx (dq tX3_readsClause 151 rfl) (by decide) ?_
        have e_167 : M_151 10 0 = M_120 10 0 := (m_152 10 0 (by omega))
        have e_168 : M_151 10 1 = M_120 10 1 := (m_152 10 1 (by omega))
        have e_169 : M_151 10 2 = M_120 10 2 := (m_152 10 2 (by omega))
        have e_170 : M_151 10 3 = M_120 10 3 := (m_152 10 3 (by omega))
        have e_171 : M_151 9 2 = M_120 9 2 := (m_152 9 2 (by omega))
        have e_172 : M_151 7 1 = M_120 7 1 := (m_152 7 1 (by omega))
        have e_173 : M_151 7 2 = M_120 7 2 := (m_152 7 2 (by omega))
        have e_174 : M_151 7 3 = M_120 7 3 := (m_152 7 3 (by omega))
        have e_175 : M_151 7 4 = M_120 7 4 := (m_152 7 4 (by omega))
        exact g_zret hx hr (dq tX3_readsClause 153 rfl) (by omega) ⟨(fun u_ v_ huv_ => (((m_152 u_ v_ (by omega)).trans (f_123 u_ v_ (by omega))).trans (f_106 u_ v_ (by omega)))), g_153, (by omega), (by omega), (by omega), (by omega), (by have w1 := Tc.at g_154; rw [show (M_151 7 2).toNat = (M_120 7 2).toNat by omega]; exact g_154), (rp_2 (by omega) (by omega) h_109 h_126 (by omega) (by omega) (by omega) (by omega) (by omega)), (fun h0 => up_eq (by omega) (by omega) (by omega) (by omega) (by omega))⟩
  by_cases c_176 : kind = 3
  · have hfit := ex1.2.1 c_176
    refine g_swI (t := 139) hx (dq tX3_readsClause 1 rfl) c_176 (by decide) (by decide) rfl (by decide) ?_
    refine g_aload_n (n := 140) hx 0 (dq tX3_readsClause 57 rfl) rfl rfl ?_
    refine g_getR (n := 143) hx glX3_12 (sX3_0 (by decide)) (dq tX3_readsClause 58 rfl) rfl ?_
    refine g_getR (n := 146) hx glX3_81 (sX2_7 (by decide)) (dq tX3_readsClause 59 rfl) rfl ?_
    refine g_aload_n (n := 147) hx 0 (dq tX3_readsClause 60 rfl) rfl rfl ?_
    refine g_getR (n := 150) hx glX3_12 (sX3_0 (by decide)) (dq tX3_readsClause 61 rfl) rfl ?_
    refine g_getI (n := 153) hx glX3_61 (sX2_2 (by decide)) (dq tX3_readsClause 62 rfl) rfl (fun h_177l h_177u => ?_)
    refine g_aload_n (n := 154) hx 0 (dq tX3_readsClause 63 rfl) rfl rfl ?_
    refine g_iconst (n := 155) hx (dq tX3_readsClause 64 rfl) rfl ?_
    refine g_bipush (n := 157) hx (dq tX3_readsClause 65 rfl) rfl (by decide) ?_
    refine g_callVi (n := 160) (As := [vI 1, vI 99]) (rest := [vI (M 10 2), aR Γ (10 + 3)]) hx (ctX3_readNumber2 Γ M 1 (by decide) (by decide) 99 (by decide) (by decide) t9 n9 a9 ex0) mlX3_67 (obX3 (by decide)) (dq tX3_readsClause 66 rfl) rfl (Nat.le_of_ble_eq_true rfl) (Nat.le_of_ble_eq_true rfl) (Nat.le_of_ble_eq_true rfl) rfl (fun z_178 M_179 h_180 p_181 => ?_)
    obtain ⟨f_182, h_183, h_184, h_185, h_186⟩ := p_181
    have g_187 : RvI M_179 := fun hf => RvOk.out (rv (h_183.2.1 hf)) (fun u v h1 h2 => f_182 u v (by omega))
    have h_1881 := RN.lo h_183 (by omega)
    have h_1882 := RN.hi (K := 99) h_183 (by omega) (by decide)
    have e_189 : M_179 10 0 = M 10 0 := (f_182 10 0 (by omega))
    have e_190 : M_179 10 1 = M 10 1 := (f_182 10 1 (by omega))
    have e_191 : M_179 10 2 = M 10 2 := (f_182 10 2 (by omega))
    have e_192 : M_179 10 3 = M 10 3 := (f_182 10 3 (by omega))
    have e_193 : M_179 9 2 = M 9 2 := (f_182 9 2 (by omega))
    have e_194 : M_179 7 1 = M 7 1 := (f_182 7 1 (by omega))
    refine g_iast (n := 161) (q := (M 10 2).toNat) hx (aX2_7 (b := 10) (by decide)) (dq tX3_readsClause 67 rfl) rfl (by omega) (by omega) (by omega) rfl (by omega) (by omega) (fun M_195 m_196e m_196 => ?_)
    have g_197 : RvI M_195 := fun hf => RvOk.row (k := 3) (i := (M 10 2).toNat) (g_187 ((m_196 7 5 (by omega)).symm.trans hf)) (by omega) m_196
    have g_198 : Tc M_195 t9 n9 ((M_179 7 2).toNat) := Tc.frame h_184 (fun c j hcj => m_196 c j (by omega))
    refine g_aload_n (n := 162) hx 0 (dq tX3_readsClause 68 rfl) rfl rfl ?_
    refine g_getR (n := 165) hx glX3_12 (sX3_0 (by decide)) (dq tX3_readsClause 69 rfl) rfl ?_
    refine g_dup (n := 166) hx (dq tX3_readsClause 70 rfl) rfl rfl ?_
    refine g_getI (n := 169) hx glX3_61 (sX2_2 (by decide)) (dq tX3_readsClause 71 rfl) rfl (fun h_199l h_199u => ?_)
    have e_200 : M_195 10 2 = M_179 10 2 := (m_196 10 2 (by omega))
    refine g_iconst (n := 170) hx (dq tX3_readsClause 72 rfl) rfl ?_
    refine g_iadd (n := 171) hx (dq tX3_readsClause 73 rfl) rfl ?_
    have e_201 : M_195 10 0 = M_179 10 0 := (m_196 10 0 (by omega))
    have e_202 : M_195 10 1 = M_179 10 1 := (m_196 10 1 (by omega))
    have e_203 : M_195 10 3 = M_179 10 3 := (m_196 10 3 (by omega))
    have e_204 : M_195 9 2 = M_179 9 2 := (m_196 9 2 (by omega))
    have e_205 : M_195 7 5 = M_179 7 5 := (m_196 7 5 (by omega))
    have e_206 : M_195 7 1 = M_179 7 1 := (m_196 7 1 (by omega))
    have e_207 : M_195 7 2 = M_179 7 2 := (m_196 7 2 (by omega))
    have e_208 : M_195 7 3 = M_179 7 3 := (m_196 7 3 (by omega))
    have e_209 : M_195 7 4 = M_179 7 4 := (m_196 7 4 (by omega))
    refine g_putI (n := 174) hx plX3_61 (sX2_2 (by decide)) (dq tX3_readsClause 74 rfl) rfl (by omega) (by omega) (fun M_210 m_211e m_211 => ?_)
    have g_212 : RvI M_210 := fun hf => RvOk.put (j := 2) (g_197 ((m_211 7 5 (by omega)).symm.trans hf)) (by decide) (by decide) m_211
    have g_213 : Tc M_210 t9 n9 ((M_179 7 2).toNat) := Tc.frame g_198 (fun c j hcj => m_211 c j (by omega))
    refine g_goto (n := 314) hx (dq tX3_readsClause 75 rfl) (by decide) ?_
    refine g_aload_n (n := 315) hx 0 (dq tX3_readsClause 146 rfl) rfl rfl ?_
    refine g_getR (n := 318) hx glX3_18 (sX3_1 (by decide)) (dq tX3_readsClause 147 rfl) rfl ?_
    refine g_getI (n := 321) hx glX3_99 (sX7_5 (by decide)) (dq tX3_readsClause 148 rfl) rfl (fun h_214l h_214u => ?_)
    have e_215 : M_210 7 5 = M_195 7 5 := (m_211 7 5 (by omega))
    refine g_if_ne (n := 324) (t := 328) hx (dq tX3_readsClause 149 rfl) (by decide) rfl (zrI h_214l h_214u (by decide) (by decide)) (fun c_216 => ?_) (fun c_216 => ?_)
    · refine g_iconst (n := 329) hx (dq tX3_readsClause 152 rfl) rfl ?_
      have e_217 : M_210 10 0 = M_195 10 0 := (m_211 10 0 (by omega))
      have e_218 : M_210 10 1 = M_195 10 1 := (m_211 10 1 (by omega))
      have e_219 : M_210 10 3 = M_195 10 3 := (m_211 10 3 (by omega))
      have e_220 : M_210 9 2 = M_195 9 2 := (m_211 9 2 (by omega))
      have e_221 : M_210 7 1 = M_195 7 1 := (m_211 7 1 (by omega))
      have e_222 : M_210 7 2 = M_195 7 2 := (m_211 7 2 (by omega))
      have e_223 : M_210 7 3 = M_195 7 3 := (m_211 7 3 (by omega))
      have e_224 : M_210 7 4 = M_195 7 4 := (m_211 7 4 (by omega))
      exact g_zret hx hr (dq tX3_readsClause 153 rfl) (by omega) ⟨(fun u_ v_ huv_ => (((m_211 u_ v_ (by omega)).trans (m_196 u_ v_ (by omega))).trans (f_182 u_ v_ (by omega)))), g_212, (by omega), (by omega), (by omega), (by omega), (by have w1 := Tc.at g_213; rw [show (M_210 7 2).toNat = (M_179 7 2).toNat by omega]; exact g_213), (rp_3 (by omega) (by omega) h_185 (by omega) (by omega)), (fun h0 => up_eq (by omega) (by omega) (by omega) (by omega) (by omega))⟩
    · refine g_iconst (n := 325) hx (dq tX3_readsClause 150 rfl) rfl ?_
      refine g_goto (n := 329) hx (dq tX3_readsClause 151 rfl) (by decide) ?_
      have e_225 : M_210 10 0 = M_195 10 0 := (m_211 10 0 (by omega))
      have e_226 : M_210 10 1 = M_195 10 1 := (m_211 10 1 (by omega))
      have e_227 : M_210 10 3 = M_195 10 3 := (m_211 10 3 (by omega))
      have e_228 : M_210 9 2 = M_195 9 2 := (m_211 9 2 (by omega))
      have e_229 : M_210 7 1 = M_195 7 1 := (m_211 7 1 (by omega))
      have e_230 : M_210 7 2 = M_195 7 2 := (m_211 7 2 (by omega))
      have e_231 : M_210 7 3 = M_195 7 3 := (m_211 7 3 (by omega))
      have e_232 : M_210 7 4 = M_195 7 4 := (m_211 7 4 (by omega))
      exact g_zret hx hr (dq tX3_readsClause 153 rfl) (by omega) ⟨(fun u_ v_ huv_ => (((m_211 u_ v_ (by omega)).trans (m_196 u_ v_ (by omega))).trans (f_182 u_ v_ (by omega)))), g_212, (by omega), (by omega), (by omega), (by omega), (by have w1 := Tc.at g_213; rw [show (M_210 7 2).toNat = (M_179 7 2).toNat by omega]; exact g_213), (rp_3 (by omega) (by omega) h_185 (by omega) (by omega)), (fun h0 => up_eq (by omega) (by omega) (by omega) (by omega) (by omega))⟩
  by_cases c_233 : kind = 4
  · have hfit := ex1.2.2 c_233
    refine g_swI (t := 177) hx (dq tX3_readsClause 1 rfl) c_233 (by decide) (by decide) rfl (by decide) ?_
    refine g_aload_n (n := 178) hx 0 (dq tX3_readsClause 76 rfl) rfl rfl ?_
    refine g_getR (n := 181) hx glX3_12 (sX3_0 (by decide)) (dq tX3_readsClause 77 rfl) rfl ?_
    refine g_getR (n := 184) hx glX3_84 (sX2_8 (by decide)) (dq tX3_readsClause 78 rfl) rfl ?_
    refine g_aload_n (n := 185) hx 0 (dq tX3_readsClause 79 rfl) rfl rfl ?_
    refine g_getR (n := 188) hx glX3_12 (sX3_0 (by decide)) (dq tX3_readsClause 80 rfl) rfl ?_
    refine g_getI (n := 191) hx glX3_64 (sX2_3 (by decide)) (dq tX3_readsClause 81 rfl) rfl (fun h_234l h_234u => ?_)
    refine g_aload_n (n := 192) hx 0 (dq tX3_readsClause 82 rfl) rfl rfl ?_
    refine g_iconst (n := 193) hx (dq tX3_readsClause 83 rfl) rfl ?_
    refine g_aload_n (n := 194) hx 0 (dq tX3_readsClause 84 rfl) rfl rfl ?_
    refine g_getR (n := 197) hx glX3_12 (sX3_0 (by decide)) (dq tX3_readsClause 85 rfl) rfl ?_
    refine g_getI (n := 200) hx glX3_61 (sX2_2 (by decide)) (dq tX3_readsClause 86 rfl) rfl (fun h_235l h_235u => ?_)
    refine g_iconst (n := 201) hx (dq tX3_readsClause 87 rfl) rfl ?_
    refine g_isub (n := 202) hx (dq tX3_readsClause 88 rfl) rfl ?_
    refine g_callVi (n := 205) (As := [vI 0, vI ((M 10 2) - 1)]) (rest := [vI (M 10 3), aR Γ (10 + 4)]) hx (ctX3_readNumber2 Γ M 0 (by decide) (by decide) ((M 10 2) - 1) (by omega) (by omega) t9 n9 a9 ex0) mlX3_67 (obX3 (by decide)) (dq tX3_readsClause 89 rfl) rfl (Nat.le_of_ble_eq_true rfl) (Nat.le_of_ble_eq_true rfl) (Nat.le_of_ble_eq_true rfl) rfl (fun z_236 M_237 h_238 p_239 => ?_)
    obtain ⟨f_240, h_241, h_242, h_243, h_244⟩ := p_239
    have g_245 : RvI M_237 := fun hf => RvOk.out (rv (h_241.2.1 hf)) (fun u v h1 h2 => f_240 u v (by omega))
    have h_2461 := RN.lo h_241 (by omega)
    have h_2462 := RN.hi (K := 3) h_241 (by omega) (by decide)
    have e_247 : M_237 10 0 = M 10 0 := (f_240 10 0 (by omega))
    have e_248 : M_237 10 1 = M 10 1 := (f_240 10 1 (by omega))
    have e_249 : M_237 10 2 = M 10 2 := (f_240 10 2 (by omega))
    have e_250 : M_237 10 3 = M 10 3 := (f_240 10 3 (by omega))
    have e_251 : M_237 9 2 = M 9 2 := (f_240 9 2 (by omega))
    have e_252 : M_237 7 1 = M 7 1 := (f_240 7 1 (by omega))
    refine g_iast (n := 206) (q := (M 10 3).toNat) hx (aX2_8 (b := 10) (by decide)) (dq tX3_readsClause 90 rfl) rfl (by omega) (by omega) (by omega) rfl (by omega) (by omega) (fun M_253 m_254e m_254 => ?_)
    have g_255 : RvI M_253 := fun hf => RvOk.row (k := 4) (i := (M 10 3).toNat) (g_245 ((m_254 7 5 (by omega)).symm.trans hf)) (by omega) m_254
    have g_256 : Tc M_253 t9 n9 ((M_237 7 2).toNat) := Tc.frame h_242 (fun c j hcj => m_254 c j (by omega))
    refine g_aload_n (n := 207) hx 0 (dq tX3_readsClause 91 rfl) rfl rfl ?_
    refine g_getR (n := 210) hx glX3_12 (sX3_0 (by decide)) (dq tX3_readsClause 92 rfl) rfl ?_
    refine g_getR (n := 213) hx glX3_87 (sX2_9 (by decide)) (dq tX3_readsClause 93 rfl) rfl ?_
    refine g_aload_n (n := 214) hx 0 (dq tX3_readsClause 94 rfl) rfl rfl ?_
    refine g_getR (n := 217) hx glX3_12 (sX3_0 (by decide)) (dq tX3_readsClause 95 rfl) rfl ?_
    refine g_getI (n := 220) hx glX3_64 (sX2_3 (by decide)) (dq tX3_readsClause 96 rfl) rfl (fun h_257l h_257u => ?_)
    have e_258 : M_253 10 3 = M_237 10 3 := (m_254 10 3 (by omega))
    refine g_aload_n (n := 221) hx 0 (dq tX3_readsClause 97 rfl) rfl rfl ?_
    refine g_iconst (n := 222) hx (dq tX3_readsClause 98 rfl) rfl ?_
    refine g_bipush (n := 224) hx (dq tX3_readsClause 99 rfl) rfl (by decide) ?_
    have e_259 : M_253 10 0 = M_237 10 0 := (m_254 10 0 (by omega))
    have e_260 : M_253 10 1 = M_237 10 1 := (m_254 10 1 (by omega))
    have e_261 : M_253 10 2 = M_237 10 2 := (m_254 10 2 (by omega))
    have e_262 : M_253 9 2 = M_237 9 2 := (m_254 9 2 (by omega))
    have e_263 : M_253 7 5 = M_237 7 5 := (m_254 7 5 (by omega))
    have e_264 : M_253 7 1 = M_237 7 1 := (m_254 7 1 (by omega))
    have e_265 : M_253 7 2 = M_237 7 2 := (m_254 7 2 (by omega))
    have e_266 : M_253 7 3 = M_237 7 3 := (m_254 7 3 (by omega))
    have e_267 : M_253 7 4 = M_237 7 4 := (m_254 7 4 (by omega))
    refine g_callVi (n := 227) (As := [vI 1, vI 99]) (rest := [vI (M_253 10 3), aR Γ (10 + 5)]) hx (ctX3_readNumber2 Γ M_253 1 (by decide) (by decide) 99 (by decide) (by decide) t9 n9 ((M_237 7 2).toNat) g_256) mlX3_67 (obX3 (by decide)) (dq tX3_readsClause 100 rfl) rfl (Nat.le_of_ble_eq_true rfl) (Nat.le_of_ble_eq_true rfl) (Nat.le_of_ble_eq_true rfl) rfl (fun z_268 M_269 h_270 p_271 => ?_)
    obtain ⟨f_272, h_273, h_274, h_275, h_276⟩ := p_271
    have g_277 : RvI M_269 := fun hf => RvOk.out (g_255 (h_273.2.1 hf)) (fun u v h1 h2 => f_272 u v (by omega))
    have h_2781 := RN.lo h_273 (by omega)
    have h_2782 := RN.hi (K := 99) h_273 (by omega) (by decide)
    have e_279 : M_269 10 0 = M_253 10 0 := (f_272 10 0 (by omega))
    have e_280 : M_269 10 1 = M_253 10 1 := (f_272 10 1 (by omega))
    have e_281 : M_269 10 2 = M_253 10 2 := (f_272 10 2 (by omega))
    have e_282 : M_269 10 3 = M_253 10 3 := (f_272 10 3 (by omega))
    have e_283 : M_269 9 2 = M_253 9 2 := (f_272 9 2 (by omega))
    have e_284 : M_269 7 1 = M_253 7 1 := (f_272 7 1 (by omega))
    refine g_iast (n := 228) (q := (M_253 10 3).toNat) hx (aX2_9 (b := 10) (by decide)) (dq tX3_readsClause 101 rfl) rfl (by omega) (by omega) (by omega) rfl (by omega) (by omega) (fun M_285 m_286e m_286 => ?_)
    have g_287 : RvI M_285 := fun hf => RvOk.row (k := 5) (i := (M_253 10 3).toNat) (g_277 ((m_286 7 5 (by omega)).symm.trans hf)) (by omega) m_286
    have g_288 : Tc M_285 t9 n9 ((M_269 7 2).toNat) := Tc.frame h_274 (fun c j hcj => m_286 c j (by omega))
    refine g_aload_n (n := 229) hx 0 (dq tX3_readsClause 102 rfl) rfl rfl ?_
    refine g_getR (n := 232) hx glX3_12 (sX3_0 (by decide)) (dq tX3_readsClause 103 rfl) rfl ?_
    refine g_getR (n := 235) hx glX3_90 (sX2_10 (by decide)) (dq tX3_readsClause 104 rfl) rfl ?_
    refine g_aload_n (n := 236) hx 0 (dq tX3_readsClause 105 rfl) rfl rfl ?_
    refine g_getR (n := 239) hx glX3_12 (sX3_0 (by decide)) (dq tX3_readsClause 106 rfl) rfl ?_
    refine g_getI (n := 242) hx glX3_64 (sX2_3 (by decide)) (dq tX3_readsClause 107 rfl) rfl (fun h_289l h_289u => ?_)
    have e_290 : M_285 10 3 = M_269 10 3 := (m_286 10 3 (by omega))
    refine g_aload_n (n := 243) hx 0 (dq tX3_readsClause 108 rfl) rfl rfl ?_
    refine g_iconst (n := 244) hx (dq tX3_readsClause 109 rfl) rfl ?_
    refine g_bipush (n := 246) hx (dq tX3_readsClause 110 rfl) rfl (by decide) ?_
    have e_291 : M_285 10 0 = M_269 10 0 := (m_286 10 0 (by omega))
    have e_292 : M_285 10 1 = M_269 10 1 := (m_286 10 1 (by omega))
    have e_293 : M_285 10 2 = M_269 10 2 := (m_286 10 2 (by omega))
    have e_294 : M_285 9 2 = M_269 9 2 := (m_286 9 2 (by omega))
    have e_295 : M_285 7 5 = M_269 7 5 := (m_286 7 5 (by omega))
    have e_296 : M_285 7 1 = M_269 7 1 := (m_286 7 1 (by omega))
    have e_297 : M_285 7 2 = M_269 7 2 := (m_286 7 2 (by omega))
    have e_298 : M_285 7 3 = M_269 7 3 := (m_286 7 3 (by omega))
    have e_299 : M_285 7 4 = M_269 7 4 := (m_286 7 4 (by omega))
    refine g_callVi (n := 249) (As := [vI 1, vI 99]) (rest := [vI (M_285 10 3), aR Γ (10 + 6)]) hx (ctX3_readNumber2 Γ M_285 1 (by decide) (by decide) 99 (by decide) (by decide) t9 n9 ((M_269 7 2).toNat) g_288) mlX3_67 (obX3 (by decide)) (dq tX3_readsClause 111 rfl) rfl (Nat.le_of_ble_eq_true rfl) (Nat.le_of_ble_eq_true rfl) (Nat.le_of_ble_eq_true rfl) rfl (fun z_300 M_301 h_302 p_303 => ?_)
    obtain ⟨f_304, h_305, h_306, h_307, h_308⟩ := p_303
    have g_309 : RvI M_301 := fun hf => RvOk.out (g_287 (h_305.2.1 hf)) (fun u v h1 h2 => f_304 u v (by omega))
    have h_3101 := RN.lo h_305 (by omega)
    have h_3102 := RN.hi (K := 99) h_305 (by omega) (by decide)
    have e_311 : M_301 10 0 = M_285 10 0 := (f_304 10 0 (by omega))
    have e_312 : M_301 10 1 = M_285 10 1 := (f_304 10 1 (by omega))
    have e_313 : M_301 10 2 = M_285 10 2 := (f_304 10 2 (by omega))
    have e_314 : M_301 10 3 = M_285 10 3 := (f_304 10 3 (by omega))
    have e_315 : M_301 9 2 = M_285 9 2 := (f_304 9 2 (by omega))
    have e_316 : M_301 7 1 = M_285 7 1 := (f_304 7 1 (by omega))
    refine g_iast (n := 250) (q := (M_285 10 3).toNat) hx (aX2_10 (b := 10) (by decide)) (dq tX3_readsClause 112 rfl) rfl (by omega) (by omega) (by omega) rfl (by omega) (by omega) (fun M_317 m_318e m_318 => ?_)
    have g_319 : RvI M_317 := fun hf => RvOk.row (k := 6) (i := (M_285 10 3).toNat) (g_309 ((m_318 7 5 (by omega)).symm.trans hf)) (by omega) m_318
    have g_320 : Tc M_317 t9 n9 ((M_301 7 2).toNat) := Tc.frame h_306 (fun c j hcj => m_318 c j (by omega))
    refine g_aload_n (n := 251) hx 0 (dq tX3_readsClause 113 rfl) rfl rfl ?_
    refine g_getR (n := 254) hx glX3_12 (sX3_0 (by decide)) (dq tX3_readsClause 114 rfl) rfl ?_
    refine g_getR (n := 257) hx glX3_93 (sX2_11 (by decide)) (dq tX3_readsClause 115 rfl) rfl ?_
    refine g_aload_n (n := 258) hx 0 (dq tX3_readsClause 116 rfl) rfl rfl ?_
    refine g_getR (n := 261) hx glX3_12 (sX3_0 (by decide)) (dq tX3_readsClause 117 rfl) rfl ?_
    refine g_getI (n := 264) hx glX3_64 (sX2_3 (by decide)) (dq tX3_readsClause 118 rfl) rfl (fun h_321l h_321u => ?_)
    have e_322 : M_317 10 3 = M_301 10 3 := (m_318 10 3 (by omega))
    refine g_aload_n (n := 265) hx 0 (dq tX3_readsClause 119 rfl) rfl rfl ?_
    refine g_iconst (n := 266) hx (dq tX3_readsClause 120 rfl) rfl ?_
    refine g_aload_n (n := 267) hx 0 (dq tX3_readsClause 121 rfl) rfl rfl ?_
    refine g_getR (n := 270) hx glX3_12 (sX3_0 (by decide)) (dq tX3_readsClause 122 rfl) rfl ?_
    refine g_getI (n := 273) hx glX3_58 (sX2_1 (by decide)) (dq tX3_readsClause 123 rfl) rfl (fun h_323l h_323u => ?_)
    have e_324 : M_317 10 1 = M_301 10 1 := (m_318 10 1 (by omega))
    refine g_iconst (n := 274) hx (dq tX3_readsClause 124 rfl) rfl ?_
    refine g_isub (n := 275) hx (dq tX3_readsClause 125 rfl) rfl ?_
    have e_325 : M_317 10 0 = M_301 10 0 := (m_318 10 0 (by omega))
    have e_326 : M_317 10 2 = M_301 10 2 := (m_318 10 2 (by omega))
    have e_327 : M_317 9 2 = M_301 9 2 := (m_318 9 2 (by omega))
    have e_328 : M_317 7 5 = M_301 7 5 := (m_318 7 5 (by omega))
    have e_329 : M_317 7 1 = M_301 7 1 := (m_318 7 1 (by omega))
    have e_330 : M_317 7 2 = M_301 7 2 := (m_318 7 2 (by omega))
    have e_331 : M_317 7 3 = M_301 7 3 := (m_318 7 3 (by omega))
    have e_332 : M_317 7 4 = M_301 7 4 := (m_318 7 4 (by omega))
    refine g_callVi (n := 278) (As := [vI 0, vI ((M_317 10 1) - 1)]) (rest := [vI (M_317 10 3), aR Γ (10 + 7)]) hx (ctX3_readNumber2 Γ M_317 0 (by decide) (by decide) ((M_317 10 1) - 1) (by omega) (by omega) t9 n9 ((M_301 7 2).toNat) g_320) mlX3_67 (obX3 (by decide)) (dq tX3_readsClause 126 rfl) rfl (Nat.le_of_ble_eq_true rfl) (Nat.le_of_ble_eq_true rfl) (Nat.le_of_ble_eq_true rfl) rfl (fun z_333 M_334 h_335 p_336 => ?_)
    obtain ⟨f_337, h_338, h_339, h_340, h_341⟩ := p_336
    have g_342 : RvI M_334 := fun hf => RvOk.out (g_319 (h_338.2.1 hf)) (fun u v h1 h2 => f_337 u v (by omega))
    have h_3431 := RN.lo h_338 (by omega)
    have h_3432 := RN.hi (K := 5) h_338 (by omega) (by decide)
    have e_344 : M_334 10 0 = M_317 10 0 := (f_337 10 0 (by omega))
    have e_345 : M_334 10 1 = M_317 10 1 := (f_337 10 1 (by omega))
    have e_346 : M_334 10 2 = M_317 10 2 := (f_337 10 2 (by omega))
    have e_347 : M_334 10 3 = M_317 10 3 := (f_337 10 3 (by omega))
    have e_348 : M_334 9 2 = M_317 9 2 := (f_337 9 2 (by omega))
    have e_349 : M_334 7 1 = M_317 7 1 := (f_337 7 1 (by omega))
    refine g_iast (n := 279) (q := (M_317 10 3).toNat) hx (aX2_11 (b := 10) (by decide)) (dq tX3_readsClause 127 rfl) rfl (by omega) (by omega) (by omega) rfl (by omega) (by omega) (fun M_350 m_351e m_351 => ?_)
    have g_352 : RvI M_350 := fun hf => RvOk.row (k := 7) (i := (M_317 10 3).toNat) (g_342 ((m_351 7 5 (by omega)).symm.trans hf)) (by omega) m_351
    have g_353 : Tc M_350 t9 n9 ((M_334 7 2).toNat) := Tc.frame h_339 (fun c j hcj => m_351 c j (by omega))
    refine g_aload_n (n := 280) hx 0 (dq tX3_readsClause 128 rfl) rfl rfl ?_
    refine g_getR (n := 283) hx glX3_12 (sX3_0 (by decide)) (dq tX3_readsClause 129 rfl) rfl ?_
    refine g_dup (n := 284) hx (dq tX3_readsClause 130 rfl) rfl rfl ?_
    refine g_getI (n := 287) hx glX3_64 (sX2_3 (by decide)) (dq tX3_readsClause 131 rfl) rfl (fun h_354l h_354u => ?_)
    have e_355 : M_350 10 3 = M_334 10 3 := (m_351 10 3 (by omega))
    refine g_iconst (n := 288) hx (dq tX3_readsClause 132 rfl) rfl ?_
    refine g_iadd (n := 289) hx (dq tX3_readsClause 133 rfl) rfl ?_
    have e_356 : M_350 10 0 = M_334 10 0 := (m_351 10 0 (by omega))
    have e_357 : M_350 10 1 = M_334 10 1 := (m_351 10 1 (by omega))
    have e_358 : M_350 10 2 = M_334 10 2 := (m_351 10 2 (by omega))
    have e_359 : M_350 9 2 = M_334 9 2 := (m_351 9 2 (by omega))
    have e_360 : M_350 7 5 = M_334 7 5 := (m_351 7 5 (by omega))
    have e_361 : M_350 7 1 = M_334 7 1 := (m_351 7 1 (by omega))
    have e_362 : M_350 7 2 = M_334 7 2 := (m_351 7 2 (by omega))
    have e_363 : M_350 7 3 = M_334 7 3 := (m_351 7 3 (by omega))
    have e_364 : M_350 7 4 = M_334 7 4 := (m_351 7 4 (by omega))
    refine g_putI (n := 292) hx plX3_64 (sX2_3 (by decide)) (dq tX3_readsClause 134 rfl) rfl (by omega) (by omega) (fun M_365 m_366e m_366 => ?_)
    have g_367 : RvI M_365 := by
      intro hf
      have q5 := (m_366 7 5 (by omega) : M_365 7 5 = M_350 7 5)
      have a1 := (((((((m_351 (10 + 4) ((M 10 3).toNat) (by omega)).trans (f_337 (10 + 4) ((M 10 3).toNat) (by omega))).trans (m_318 (10 + 4) ((M 10 3).toNat) (by omega))).trans (f_304 (10 + 4) ((M 10 3).toNat) (by omega))).trans (m_286 (10 + 4) ((M 10 3).toNat) (by omega))).trans (f_272 (10 + 4) ((M 10 3).toNat) (by omega)))).trans m_254e
      have a1z : M_237 7 5 = 0 := by
        have w0 : M_350 7 5 = 0 := by omega
        have w1 : M_334 7 5 = 0 := (m_351 7 5 (by omega)).symm.trans w0
        have w2 : M_317 7 5 = 0 := h_338.2.1 w1
        have w3 : M_301 7 5 = 0 := (m_318 7 5 (by omega)).symm.trans w2
        have w4 : M_285 7 5 = 0 := h_305.2.1 w3
        have w5 : M_269 7 5 = 0 := (m_286 7 5 (by omega)).symm.trans w4
        have w6 : M_253 7 5 = 0 := h_273.2.1 w5
        have w7 : M_237 7 5 = 0 := (m_254 7 5 (by omega)).symm.trans w6
        exact w7
      have a1r := h_241.1 a1z
      have a2 := m_351e
      have a2z : M_334 7 5 = 0 := by
        have w0 : M_350 7 5 = 0 := by omega
        have w1 : M_334 7 5 = 0 := (m_351 7 5 (by omega)).symm.trans w0
        exact w1
      have a2r := h_338.1 a2z
      have a3 : (M 10 3).toNat = (M_317 10 3).toNat := by omega
      rw [a3] at a1
      exact RvOk.log (i := (M_317 10 3).toNat) (g_352 (by omega)) (by omega) (by omega) (by omega) (by omega) (by omega) m_366
    have g_368 : Tc M_365 t9 n9 ((M_334 7 2).toNat) := Tc.frame g_353 (fun c j hcj => m_366 c j (by omega))
    refine g_goto (n := 314) hx (dq tX3_readsClause 135 rfl) (by decide) ?_
    refine g_aload_n (n := 315) hx 0 (dq tX3_readsClause 146 rfl) rfl rfl ?_
    refine g_getR (n := 318) hx glX3_18 (sX3_1 (by decide)) (dq tX3_readsClause 147 rfl) rfl ?_
    refine g_getI (n := 321) hx glX3_99 (sX7_5 (by decide)) (dq tX3_readsClause 148 rfl) rfl (fun h_369l h_369u => ?_)
    have e_370 : M_365 7 5 = M_350 7 5 := (m_366 7 5 (by omega))
    refine g_if_ne (n := 324) (t := 328) hx (dq tX3_readsClause 149 rfl) (by decide) rfl (zrI h_369l h_369u (by decide) (by decide)) (fun c_371 => ?_) (fun c_371 => ?_)
    · refine g_iconst (n := 329) hx (dq tX3_readsClause 152 rfl) rfl ?_
      have e_372 : M_365 10 0 = M_350 10 0 := (m_366 10 0 (by omega))
      have e_373 : M_365 10 1 = M_350 10 1 := (m_366 10 1 (by omega))
      have e_374 : M_365 10 2 = M_350 10 2 := (m_366 10 2 (by omega))
      have e_375 : M_365 9 2 = M_350 9 2 := (m_366 9 2 (by omega))
      have e_376 : M_365 7 1 = M_350 7 1 := (m_366 7 1 (by omega))
      have e_377 : M_365 7 2 = M_350 7 2 := (m_366 7 2 (by omega))
      have e_378 : M_365 7 3 = M_350 7 3 := (m_366 7 3 (by omega))
      have e_379 : M_365 7 4 = M_350 7 4 := (m_366 7 4 (by omega))
      exact g_zret hx hr (dq tX3_readsClause 153 rfl) (by omega) ⟨(fun u_ v_ huv_ => (((((((((m_366 u_ v_ (by omega)).trans (m_351 u_ v_ (by omega))).trans (f_337 u_ v_ (by omega))).trans (m_318 u_ v_ (by omega))).trans (f_304 u_ v_ (by omega))).trans (m_286 u_ v_ (by omega))).trans (f_272 u_ v_ (by omega))).trans (m_254 u_ v_ (by omega))).trans (f_240 u_ v_ (by omega)))), g_367, (by omega), (by omega), (by omega), (by omega), (by have w1 := Tc.at g_368; rw [show (M_365 7 2).toNat = (M_334 7 2).toNat by omega]; exact g_368), (rp_4 (by omega) (by omega) (lg_4 h_243 h_275 h_307 h_340 (by omega) (by omega) (by omega) (by omega) (by omega) (by omega) rfl rfl rfl rfl) (by omega) (by omega) (by omega) (by omega)), (fun h0 => up_eq (by omega) (by omega) (by omega) (by omega) (by omega))⟩
    · refine g_iconst (n := 325) hx (dq tX3_readsClause 150 rfl) rfl ?_
      refine g_goto (n := 329) hx (dq tX3_readsClause 151 rfl) (by decide) ?_
      have e_380 : M_365 10 0 = M_350 10 0 := (m_366 10 0 (by omega))
      have e_381 : M_365 10 1 = M_350 10 1 := (m_366 10 1 (by omega))
      have e_382 : M_365 10 2 = M_350 10 2 := (m_366 10 2 (by omega))
      have e_383 : M_365 9 2 = M_350 9 2 := (m_366 9 2 (by omega))
      have e_384 : M_365 7 1 = M_350 7 1 := (m_366 7 1 (by omega))
      have e_385 : M_365 7 2 = M_350 7 2 := (m_366 7 2 (by omega))
      have e_386 : M_365 7 3 = M_350 7 3 := (m_366 7 3 (by omega))
      have e_387 : M_365 7 4 = M_350 7 4 := (m_366 7 4 (by omega))
      exact g_zret hx hr (dq tX3_readsClause 153 rfl) (by omega) ⟨(fun u_ v_ huv_ => (((((((((m_366 u_ v_ (by omega)).trans (m_351 u_ v_ (by omega))).trans (f_337 u_ v_ (by omega))).trans (m_318 u_ v_ (by omega))).trans (f_304 u_ v_ (by omega))).trans (m_286 u_ v_ (by omega))).trans (f_272 u_ v_ (by omega))).trans (m_254 u_ v_ (by omega))).trans (f_240 u_ v_ (by omega)))), g_367, (by omega), (by omega), (by omega), (by omega), (by have w1 := Tc.at g_368; rw [show (M_365 7 2).toNat = (M_334 7 2).toNat by omega]; exact g_368), (rp_4 (by omega) (by omega) (lg_4 h_243 h_275 h_307 h_340 (by omega) (by omega) (by omega) (by omega) (by omega) (by omega) rfl rfl rfl rfl) (by omega) (by omega) (by omega) (by omega)), (fun h0 => up_eq (by omega) (by omega) (by omega) (by omega) (by omega))⟩
  refine g_swO (t := 295) hx (dq tX3_readsClause 1 rfl) (zrI hkindl hkindu (by decide) (by decide)) (by omega) (by decide) ?_
  refine g_aload_n (n := 296) hx 0 (dq tX3_readsClause 136 rfl) rfl rfl ?_
  refine g_getR (n := 299) hx glX3_12 (sX3_0 (by decide)) (dq tX3_readsClause 137 rfl) rfl ?_
  refine g_aload_n (n := 300) hx 0 (dq tX3_readsClause 138 rfl) rfl rfl ?_
  refine g_iconst (n := 301) hx (dq tX3_readsClause 139 rfl) rfl ?_
  refine g_bipush (n := 303) hx (dq tX3_readsClause 140 rfl) rfl (by decide) ?_
  refine g_callVi (n := 306) (As := [vI 0, vI 9]) (rest := [aR Γ 10]) hx (ctX3_readNumber2 Γ M 0 (by decide) (by decide) 9 (by decide) (by decide) t9 n9 a9 ex0) mlX3_67 (obX3 (by decide)) (dq tX3_readsClause 141 rfl) rfl (Nat.le_of_ble_eq_true rfl) (Nat.le_of_ble_eq_true rfl) (Nat.le_of_ble_eq_true rfl) rfl (fun z_388 M_389 h_390 p_391 => ?_)
  obtain ⟨f_392, h_393, h_394, h_395, h_396⟩ := p_391
  have g_397 : RvI M_389 := fun hf => RvOk.out (rv (h_393.2.1 hf)) (fun u v h1 h2 => f_392 u v (by omega))
  have h_3981 := RN.lo h_393 (by omega)
  have h_3982 := RN.hi (K := 9) h_393 (by omega) (by decide)
  have e_399 : M_389 10 0 = M 10 0 := (f_392 10 0 (by omega))
  have e_400 : M_389 10 1 = M 10 1 := (f_392 10 1 (by omega))
  have e_401 : M_389 10 2 = M 10 2 := (f_392 10 2 (by omega))
  have e_402 : M_389 10 3 = M 10 3 := (f_392 10 3 (by omega))
  have e_403 : M_389 9 2 = M 9 2 := (f_392 9 2 (by omega))
  have e_404 : M_389 7 1 = M 7 1 := (f_392 7 1 (by omega))
  refine g_putI (n := 309) hx plX3_96 (sX2_4 (by decide)) (dq tX3_readsClause 142 rfl) rfl (by omega) (by omega) (fun M_405 m_406e m_406 => ?_)
  have g_407 : RvI M_405 := fun hf => RvOk.put (j := 4) (g_397 ((m_406 7 5 (by omega)).symm.trans hf)) (by decide) (by decide) m_406
  have g_408 : Tc M_405 t9 n9 ((M_389 7 2).toNat) := Tc.frame h_394 (fun c j hcj => m_406 c j (by omega))
  refine g_aload_n (n := 310) hx 0 (dq tX3_readsClause 143 rfl) rfl rfl ?_
  refine g_iconst (n := 311) hx (dq tX3_readsClause 144 rfl) rfl ?_
  have e_409 : M_405 10 0 = M_389 10 0 := (m_406 10 0 (by omega))
  have e_410 : M_405 10 1 = M_389 10 1 := (m_406 10 1 (by omega))
  have e_411 : M_405 10 2 = M_389 10 2 := (m_406 10 2 (by omega))
  have e_412 : M_405 10 3 = M_389 10 3 := (m_406 10 3 (by omega))
  have e_413 : M_405 9 2 = M_389 9 2 := (m_406 9 2 (by omega))
  have e_414 : M_405 7 5 = M_389 7 5 := (m_406 7 5 (by omega))
  have e_415 : M_405 7 1 = M_389 7 1 := (m_406 7 1 (by omega))
  have e_416 : M_405 7 2 = M_389 7 2 := (m_406 7 2 (by omega))
  have e_417 : M_405 7 3 = M_389 7 3 := (m_406 7 3 (by omega))
  have e_418 : M_405 7 4 = M_389 7 4 := (m_406 7 4 (by omega))
  refine g_putZ (n := 314) hx plX3_25 (sX3_2 (by decide)) (dq tX3_readsClause 145 rfl) rfl (by omega) (by omega) (by omega) (fun M_419 m_420e m_420 => ?_)
  have g_421 : RvI M_419 := fun hf => RvOk.out (g_407 ((m_420 7 5 (by omega)).symm.trans hf)) (fun u v h1 h2 => m_420 u v (by omega))
  have g_422 : Tc M_419 t9 n9 ((M_389 7 2).toNat) := Tc.frame g_408 (fun c j hcj => m_420 c j (by omega))
  refine g_aload_n (n := 315) hx 0 (dq tX3_readsClause 146 rfl) rfl rfl ?_
  refine g_getR (n := 318) hx glX3_18 (sX3_1 (by decide)) (dq tX3_readsClause 147 rfl) rfl ?_
  refine g_getI (n := 321) hx glX3_99 (sX7_5 (by decide)) (dq tX3_readsClause 148 rfl) rfl (fun h_423l h_423u => ?_)
  have e_424 : M_419 7 5 = M_405 7 5 := (m_420 7 5 (by omega))
  refine g_if_ne (n := 324) (t := 328) hx (dq tX3_readsClause 149 rfl) (by decide) rfl (zrI h_423l h_423u (by decide) (by decide)) (fun c_425 => ?_) (fun c_425 => ?_)
  · refine g_iconst (n := 329) hx (dq tX3_readsClause 152 rfl) rfl ?_
    have e_426 : M_419 10 0 = M_405 10 0 := (m_420 10 0 (by omega))
    have e_427 : M_419 10 1 = M_405 10 1 := (m_420 10 1 (by omega))
    have e_428 : M_419 10 2 = M_405 10 2 := (m_420 10 2 (by omega))
    have e_429 : M_419 10 3 = M_405 10 3 := (m_420 10 3 (by omega))
    have e_430 : M_419 7 1 = M_405 7 1 := (m_420 7 1 (by omega))
    have e_431 : M_419 7 2 = M_405 7 2 := (m_420 7 2 (by omega))
    have e_432 : M_419 7 3 = M_405 7 3 := (m_420 7 3 (by omega))
    have e_433 : M_419 7 4 = M_405 7 4 := (m_420 7 4 (by omega))
    exact g_zret hx hr (dq tX3_readsClause 153 rfl) (by omega) ⟨(fun u_ v_ huv_ => (((m_420 u_ v_ (by omega)).trans (m_406 u_ v_ (by omega))).trans (f_392 u_ v_ (by omega)))), g_421, (by omega), (by omega), (by omega), (by omega), (by have w1 := Tc.at g_422; rw [show (M_419 7 2).toNat = (M_389 7 2).toNat by omega]; exact g_422), (rp_5 (by omega) (by omega) h_395 (by omega) (by omega)), (fun h0 => up_eq (by omega) (by omega) (by omega) (by omega) (by omega))⟩
  · refine g_iconst (n := 325) hx (dq tX3_readsClause 150 rfl) rfl ?_
    refine g_goto (n := 329) hx (dq tX3_readsClause 151 rfl) (by decide) ?_
    have e_434 : M_419 10 0 = M_405 10 0 := (m_420 10 0 (by omega))
    have e_435 : M_419 10 1 = M_405 10 1 := (m_420 10 1 (by omega))
    have e_436 : M_419 10 2 = M_405 10 2 := (m_420 10 2 (by omega))
    have e_437 : M_419 10 3 = M_405 10 3 := (m_420 10 3 (by omega))
    have e_438 : M_419 7 1 = M_405 7 1 := (m_420 7 1 (by omega))
    have e_439 : M_419 7 2 = M_405 7 2 := (m_420 7 2 (by omega))
    have e_440 : M_419 7 3 = M_405 7 3 := (m_420 7 3 (by omega))
    have e_441 : M_419 7 4 = M_405 7 4 := (m_420 7 4 (by omega))
    exact g_zret hx hr (dq tX3_readsClause 153 rfl) (by omega) ⟨(fun u_ v_ huv_ => (((m_420 u_ v_ (by omega)).trans (m_406 u_ v_ (by omega))).trans (f_392 u_ v_ (by omega)))), g_421, (by omega), (by omega), (by omega), (by omega), (by have w1 := Tc.at g_422; rw [show (M_419 7 2).toNat = (M_389 7 2).toNat by omega]; exact g_422), (rp_5 (by omega) (by omega) h_395 (by omega) (by omega)), (fun h0 => up_eq (by omega) (by omega) (by omega) (by omega) (by omega))⟩
