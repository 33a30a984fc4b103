abbrev qctX2_copy (M : zM) (s : Nat) (t : Nat) (M' : zM) : Prop := (∀ u_ v_, (u_ < s ∨ s + 8 ≤ u_) → M' u_ v_ = M u_ v_) ∧ (M' s 0 = M t 0) ∧ (M' s 1 = M t 1) ∧ (M' s 2 = M t 2) ∧ (M' s 3 = M t 3) ∧ (M' s 4 = M t 4) ∧ (∀ j : Nat, j < 6 → M' (s + 1) j = M (t + 1) j) ∧ (∀ j : Nat, j < 9 → M' (s + 2) j = M (t + 2) j) ∧ (∀ j : Nat, j < 4 → M' (s + 3) j = M (t + 3) j) ∧ (∀ j : Nat, j < 12 → M' (s + 4) j = M (t + 4) j) ∧ (∀ j : Nat, j < 12 → M' (s + 5) j = M (t + 5) j) ∧ (∀ j : Nat, j < 12 → M' (s + 6) j = M (t + 6) j) ∧ (∀ j : Nat, j < 12 → M' (s + 7) j = M (t + 7) j)
set_option maxHeartbeats 4000000 in
set_option maxRecDepth 100000 in
theorem ctX2_copy (Γ : Gam) (M : zM) (s : Nat) (hs : isX2 s) (t : Nat) (ht : isX2 t) (pre0 : s ≠ t) : CtV Γ yX2_copy cX2_copy 2 none 2 81 [aR Γ s, aR Γ t] M (qctX2_copy M s t) := by
  refine met_v (by decide) (Nat.le_of_ble_eq_true rfl) (fun x hx hr => ?_)
  show G Γ x 2 (QV Γ x (qctX2_copy M s t)) M 0 [(0, aR Γ s), (1, aR Γ t)] []
  refine g_aload_n (n := 1) hx 0 (dq tX2_copy 0 rfl) rfl rfl ?_
  refine g_aload_n (n := 2) hx 1 (dq tX2_copy 1 rfl) rfl rfl ?_
  refine g_getI (n := 5) hx glX2_33 (sX2_0 ht) (dq tX2_copy 2 rfl) rfl (fun h_1l h_1u => ?_)
  refine g_putI (n := 8) hx plX2_33 (sX2_0 hs) (dq tX2_copy 3 rfl) rfl (by omega) (by omega) (fun M_2 m_3e m_3 => ?_)
  refine g_aload_n (n := 9) hx 0 (dq tX2_copy 4 rfl) rfl rfl ?_
  refine g_aload_n (n := 10) hx 1 (dq tX2_copy 5 rfl) rfl rfl ?_
  refine g_getI (n := 13) hx glX2_37 (sX2_1 ht) (dq tX2_copy 6 rfl) rfl (fun h_4l h_4u => ?_)
  refine g_putI (n := 16) hx plX2_37 (sX2_1 hs) (dq tX2_copy 7 rfl) rfl (by omega) (by omega) (fun M_5 m_6e m_6 => ?_)
  refine g_aload_n (n := 17) hx 0 (dq tX2_copy 8 rfl) rfl rfl ?_
  refine g_aload_n (n := 18) hx 1 (dq tX2_copy 9 rfl) rfl rfl ?_
  refine g_getI (n := 21) hx glX2_40 (sX2_2 ht) (dq tX2_copy 10 rfl) rfl (fun h_7l h_7u => ?_)
  refine g_putI (n := 24) hx plX2_40 (sX2_2 hs) (dq tX2_copy 11 rfl) rfl (by omega) (by omega) (fun M_8 m_9e m_9 => ?_)
  refine g_aload_n (n := 25) hx 0 (dq tX2_copy 12 rfl) rfl rfl ?_
  refine g_aload_n (n := 26) hx 1 (dq tX2_copy 13 rfl) rfl rfl ?_
  refine g_getI (n := 29) hx glX2_43 (sX2_3 ht) (dq tX2_copy 14 rfl) rfl (fun h_10l h_10u => ?_)
  refine g_putI (n := 32) hx plX2_43 (sX2_3 hs) (dq tX2_copy 15 rfl) rfl (by omega) (by omega) (fun M_11 m_12e m_12 => ?_)
  refine g_aload_n (n := 33) hx 0 (dq tX2_copy 16 rfl) rfl rfl ?_
  refine g_aload_n (n := 34) hx 1 (dq tX2_copy 17 rfl) rfl rfl ?_
  refine g_getI (n := 37) hx glX2_46 (sX2_4 ht) (dq tX2_copy 18 rfl) rfl (fun h_13l h_13u => ?_)
  refine g_putI (n := 40) hx plX2_46 (sX2_4 hs) (dq tX2_copy 19 rfl) rfl (by omega) (by omega) (fun M_14 m_15e m_15 => ?_)
  refine g_aload_n (n := 41) hx 1 (dq tX2_copy 20 rfl) rfl rfl ?_
  refine g_getR (n := 44) hx glX2_9 (sX2_5 ht) (dq tX2_copy 21 rfl) rfl ?_
  refine g_aload_n (n := 45) hx 0 (dq tX2_copy 22 rfl) rfl rfl ?_
  refine g_getR (n := 48) hx glX2_9 (sX2_5 hs) (dq tX2_copy 23 rfl) rfl ?_
  refine g_callNv (n := 51) (As := [aR Γ (t + 1), aR Γ (s + 1)]) (rest := []) hx (ctX9_copyRow Γ M_14 (t + 1) (s + 1) 6 (aX2_5 (b := t) ht) (aX2_5 (b := s) hs) (by decide) (by decide) (by decide)) mlX2_55 (dq tX2_copy 24 rfl) rfl (Nat.le_of_ble_eq_true rfl) (Nat.le_of_ble_eq_true rfl) (Nat.le_of_ble_eq_true rfl) rfl (fun M_17 p_19 => ?_)
  obtain ⟨f_20, e_21⟩ := p_19
  refine g_aload_n (n := 52) hx 1 (dq tX2_copy 25 rfl) rfl rfl ?_
  refine g_getR (n := 55) hx glX2_15 (sX2_6 ht) (dq tX2_copy 26 rfl) rfl ?_
  refine g_aload_n (n := 56) hx 0 (dq tX2_copy 27 rfl) rfl rfl ?_
  refine g_getR (n := 59) hx glX2_15 (sX2_6 hs) (dq tX2_copy 28 rfl) rfl ?_
  refine g_callNv (n := 62) (As := [aR Γ (t + 2), aR Γ (s + 2)]) (rest := []) hx (ctX9_copyRow Γ M_17 (t + 2) (s + 2) 9 (aX2_6 (b := t) ht) (aX2_6 (b := s) hs) (by decide) (by decide) (by decide)) mlX2_55 (dq tX2_copy 29 rfl) rfl (Nat.le_of_ble_eq_true rfl) (Nat.le_of_ble_eq_true rfl) (Nat.le_of_ble_eq_true rfl) rfl (fun M_23 p_25 => ?_)
  obtain ⟨f_26, e_27⟩ := p_25
  refine g_aload_n (n := 63) hx 1 (dq tX2_copy 30 rfl) rfl rfl ?_
  refine g_getR (n := 66) hx glX2_18 (sX2_7 ht) (dq tX2_copy 31 rfl) rfl ?_
  refine g_aload_n (n := 67) hx 0 (dq tX2_copy 32 rfl) rfl rfl ?_
  refine g_getR (n := 70) hx glX2_18 (sX2_7 hs) (dq tX2_copy 33 rfl) rfl ?_
  refine g_callNv (n := 73) (As := [aR Γ (t + 3), aR Γ (s + 3)]) (rest := []) hx (ctX9_copyRow Γ M_23 (t + 3) (s + 3) 4 (aX2_7 (b := t) ht) (aX2_7 (b := s) hs) (by decide) (by decide) (by decide)) mlX2_55 (dq tX2_copy 34 rfl) rfl (Nat.le_of_ble_eq_true rfl) (Nat.le_of_ble_eq_true rfl) (Nat.le_of_ble_eq_true rfl) rfl (fun M_29 p_31 => ?_)
  obtain ⟨f_32, e_33⟩ := p_31
  refine g_aload_n (n := 74) hx 1 (dq tX2_copy 35 rfl) rfl rfl ?_
  refine g_getR (n := 77) hx glX2_21 (sX2_8 ht) (dq tX2_copy 36 rfl) rfl ?_
  refine g_aload_n (n := 78) hx 0 (dq tX2_copy 37 rfl) rfl rfl ?_
  refine g_getR (n := 81) hx glX2_21 (sX2_8 hs) (dq tX2_copy 38 rfl) rfl ?_
  refine g_callNv (n := 84) (As := [aR Γ (t + 4), aR Γ (s + 4)]) (rest := []) hx (ctX9_copyRow Γ M_29 (t + 4) (s + 4) 12 (aX2_8 (b := t) ht) (aX2_8 (b := s) hs) (by decide) (by decide) (by decide)) mlX2_55 (dq tX2_copy 39 rfl) rfl (Nat.le_of_ble_eq_true rfl) (Nat.le_of_ble_eq_true rfl) (Nat.le_of_ble_eq_true rfl) rfl (fun M_35 p_37 => ?_)
  obtain ⟨f_38, e_39⟩ := p_37
  refine g_aload_n (n := 85) hx 1 (dq tX2_copy 40 rfl) rfl rfl ?_
  refine g_getR (n := 88) hx glX2_24 (sX2_9 ht) (dq tX2_copy 41 rfl) rfl ?_
  refine g_aload_n (n := 89) hx 0 (dq tX2_copy 42 rfl) rfl rfl ?_
  refine g_getR (n := 92) hx glX2_24 (sX2_9 hs) (dq tX2_copy 43 rfl) rfl ?_
  refine g_callNv (n := 95) (As := [aR Γ (t + 5), aR Γ (s + 5)]) (rest := []) hx (ctX9_copyRow Γ M_35 (t + 5) (s + 5) 12 (aX2_9 (b := t) ht) (aX2_9 (b := s) hs) (by decide) (by decide) (by decide)) mlX2_55 (dq tX2_copy 44 rfl) rfl (Nat.le_of_ble_eq_true rfl) (Nat.le_of_ble_eq_true rfl) (Nat.le_of_ble_eq_true rfl) rfl (fun M_41 p_43 => ?_)
  obtain ⟨f_44, e_45⟩ := p_43
  refine g_aload_n (n := 96) hx 1 (dq tX2_copy 45 rfl) rfl rfl ?_
  refine g_getR (n := 99) hx glX2_27 (sX2_10 ht) (dq tX2_copy 46 rfl) rfl ?_
  refine g_aload_n (n := 100) hx 0 (dq tX2_copy 47 rfl) rfl rfl ?_
  refine g_getR (n := 103) hx glX2_27 (sX2_10 hs) (dq tX2_copy 48 rfl) rfl ?_
  refine g_callNv (n := 106) (As := [aR Γ (t + 6), aR Γ (s + 6)]) (rest := []) hx (ctX9_copyRow Γ M_41 (t + 6) (s + 6) 12 (aX2_10 (b := t) ht) (aX2_10 (b := s) hs) (by decide) (by decide) (by decide)) mlX2_55 (dq tX2_copy 49 rfl) rfl (Nat.le_of_ble_eq_true rfl) (Nat.le_of_ble_eq_true rfl) (Nat.le_of_ble_eq_true rfl) rfl (fun M_47 p_49 => ?_)
  obtain ⟨f_50, e_51⟩ := p_49
  refine g_aload_n (n := 107) hx 1 (dq tX2_copy 50 rfl) rfl rfl ?_
  refine g_getR (n := 110) hx glX2_30 (sX2_11 ht) (dq tX2_copy 51 rfl) rfl ?_
  refine g_aload_n (n := 111) hx 0 (dq tX2_copy 52 rfl) rfl rfl ?_
  refine g_getR (n := 114) hx glX2_30 (sX2_11 hs) (dq tX2_copy 53 rfl) rfl ?_
  refine g_callNv (n := 117) (As := [aR Γ (t + 7), aR Γ (s + 7)]) (rest := []) hx (ctX9_copyRow Γ M_47 (t + 7) (s + 7) 12 (aX2_11 (b := t) ht) (aX2_11 (b := s) hs) (by decide) (by decide) (by decide)) mlX2_55 (dq tX2_copy 54 rfl) rfl (Nat.le_of_ble_eq_true rfl) (Nat.le_of_ble_eq_true rfl) (Nat.le_of_ble_eq_true rfl) rfl (fun M_53 p_55 => ?_)
  obtain ⟨f_56, e_57⟩ := p_55
  exact g_vret hx hr (dq tX2_copy 55 rfl) ⟨(fun u_ v_ huv_ => ((((((((((((f_56 u_ v_ (by omega)).trans (f_50 u_ v_ (by omega))).trans (f_44 u_ v_ (by omega))).trans (f_38 u_ v_ (by omega))).trans (f_32 u_ v_ (by omega))).trans (f_26 u_ v_ (by omega))).trans (f_20 u_ v_ (by omega))).trans (m_15 u_ v_ (by omega))).trans (m_12 u_ v_ (by omega))).trans (m_9 u_ v_ (by omega))).trans (m_6 u_ v_ (by omega))).trans (m_3 u_ v_ (by omega)))), (((((((((((((f_56 s 0 (by omega)).trans (f_50 s 0 (by omega))).trans (f_44 s 0 (by omega))).trans (f_38 s 0 (by omega))).trans (f_32 s 0 (by omega))).trans (f_26 s 0 (by omega))).trans (f_20 s 0 (by omega))).trans (m_15 s 0 (by omega))).trans (m_12 s 0 (by omega))).trans (m_9 s 0 (by omega))).trans (m_6 s 0 (by omega)))).trans ((m_3e).trans (rfl))), ((((((((((((f_56 s 1 (by omega)).trans (f_50 s 1 (by omega))).trans (f_44 s 1 (by omega))).trans (f_38 s 1 (by omega))).trans (f_32 s 1 (by omega))).trans (f_26 s 1 (by omega))).trans (f_20 s 1 (by omega))).trans (m_15 s 1 (by omega))).trans (m_12 s 1 (by omega))).trans (m_9 s 1 (by omega)))).trans ((m_6e).trans ((m_3 t 1 (by omega))))), (((((((((((f_56 s 2 (by omega)).trans (f_50 s 2 (by omega))).trans (f_44 s 2 (by omega))).trans (f_38 s 2 (by omega))).trans (f_32 s 2 (by omega))).trans (f_26 s 2 (by omega))).trans (f_20 s 2 (by omega))).trans (m_15 s 2 (by omega))).trans (m_12 s 2 (by omega)))).trans ((m_9e).trans (((m_6 t 2 (by omega)).trans (m_3 t 2 (by omega)))))), ((((((((((f_56 s 3 (by omega)).trans (f_50 s 3 (by omega))).trans (f_44 s 3 (by omega))).trans (f_38 s 3 (by omega))).trans (f_32 s 3 (by omega))).trans (f_26 s 3 (by omega))).trans (f_20 s 3 (by omega))).trans (m_15 s 3 (by omega)))).trans ((m_12e).trans ((((m_9 t 3 (by omega)).trans (m_6 t 3 (by omega))).trans (m_3 t 3 (by omega)))))), (((((((((f_56 s 4 (by omega)).trans (f_50 s 4 (by omega))).trans (f_44 s 4 (by omega))).trans (f_38 s 4 (by omega))).trans (f_32 s 4 (by omega))).trans (f_26 s 4 (by omega))).trans (f_20 s 4 (by omega)))).trans ((m_15e).trans (((((m_12 t 4 (by omega)).trans (m_9 t 4 (by omega))).trans (m_6 t 4 (by omega))).trans (m_3 t 4 (by omega)))))), (fun j hj => (((((((f_56 (s + 1) j (by omega)).trans (f_50 (s + 1) j (by omega))).trans (f_44 (s + 1) j (by omega))).trans (f_38 (s + 1) j (by omega))).trans (f_32 (s + 1) j (by omega))).trans (f_26 (s + 1) j (by omega)))).trans ((e_21 j hj).trans ((((((m_15 (t + 1) j (by omega)).trans (m_12 (t + 1) j (by omega))).trans (m_9 (t + 1) j (by omega))).trans (m_6 (t + 1) j (by omega))).trans (m_3 (t + 1) j (by omega)))))), (fun j hj => ((((((f_56 (s + 2) j (by omega)).trans (f_50 (s + 2) j (by omega))).trans (f_44 (s + 2) j (by omega))).trans (f_38 (s + 2) j (by omega))).trans (f_32 (s + 2) j (by omega)))).trans ((e_27 j hj).trans (((((((f_20 (t + 2) j (by omega)).trans (m_15 (t + 2) j (by omega))).trans (m_12 (t + 2) j (by omega))).trans (m_9 (t + 2) j (by omega))).trans (m_6 (t + 2) j (by omega))).trans (m_3 (t + 2) j (by omega)))))), (fun j hj => (((((f_56 (s + 3) j (by omega)).trans (f_50 (s + 3) j (by omega))).trans (f_44 (s + 3) j (by omega))).trans (f_38 (s + 3) j (by omega)))).trans ((e_33 j hj).trans ((((((((f_26 (t + 3) j (by omega)).trans (f_20 (t + 3) j (by omega))).trans (m_15 (t + 3) j (by omega))).trans (m_12 (t + 3) j (by omega))).trans (m_9 (t + 3) j (by omega))).trans (m_6 (t + 3) j (by omega))).trans (m_3 (t + 3) j (by omega)))))), (fun j hj => ((((f_56 (s + 4) j (by omega)).trans (f_50 (s + 4) j (by omega))).trans (f_44 (s + 4) j (by omega)))).trans ((e_39 j hj).trans (((((((((f_32 (t + 4) j (by omega)).trans (f_26 (t + 4) j (by omega))).trans (f_20 (t + 4) j (by omega))).trans (m_15 (t + 4) j (by omega))).trans (m_12 (t + 4) j (by omega))).trans (m_9 (t + 4) j (by omega))).trans (m_6 (t + 4) j (by omega))).trans (m_3 (t + 4) j (by omega)))))), (fun j hj => (((f_56 (s + 5) j (by omega)).trans (f_50 (s + 5) j (by omega)))).trans ((e_45 j hj).trans ((((((((((f_38 (t + 5) j (by omega)).trans (f_32 (t + 5) j (by omega))).trans (f_26 (t + 5) j (by omega))).trans (f_20 (t + 5) j (by omega))).trans (m_15 (t + 5) j (by omega))).trans (m_12 (t + 5) j (by omega))).trans (m_9 (t + 5) j (by omega))).trans (m_6 (t + 5) j (by omega))).trans (m_3 (t + 5) j (by omega)))))), (fun j hj => ((f_56 (s + 6) j (by omega))).trans ((e_51 j hj).trans (((((((((((f_44 (t + 6) j (by omega)).trans (f_38 (t + 6) j (by omega))).trans (f_32 (t + 6) j (by omega))).trans (f_26 (t + 6) j (by omega))).trans (f_20 (t + 6) j (by omega))).trans (m_15 (t + 6) j (by omega))).trans (m_12 (t + 6) j (by omega))).trans (m_9 (t + 6) j (by omega))).trans (m_6 (t + 6) j (by omega))).trans (m_3 (t + 6) j (by omega)))))), (fun j hj => (rfl).trans ((e_57 j hj).trans ((((((((((((f_50 (t + 7) j (by omega)).trans (f_44 (t + 7) j (by omega))).trans (f_38 (t + 7) j (by omega))).trans (f_32 (t + 7) j (by omega))).trans (f_26 (t + 7) j (by omega))).trans (f_20 (t + 7) j (by omega))).trans (m_15 (t + 7) j (by omega))).trans (m_12 (t + 7) j (by omega))).trans (m_9 (t + 7) j (by omega))).trans (m_6 (t + 7) j (by omega))).trans (m_3 (t + 7) j (by omega))))))⟩

abbrev qctX6_copy (M : zM) (s : Nat) (t : Nat) (M' : zM) : Prop := (∀ u_ v_, (u_ < s ∨ s + 10 ≤ u_) → M' u_ v_ = M u_ v_) ∧ (M' s 0 = M t 0) ∧ (M' s 1 = M t 1) ∧ (M' s 2 = M t 2) ∧ (M' s 3 = M t 3) ∧ (M' s 4 = M t 4) ∧ (M' s 5 = M t 5) ∧ (∀ j : Nat, j < 6 → M' (s + 1) j = M (t + 1) j) ∧ (∀ j : Nat, j < 9 → M' (s + 2) j = M (t + 2) j) ∧ (∀ j : Nat, j < 12 → M' (s + 3) j = M (t + 3) j) ∧ (∀ j : Nat, j < 12 → M' (s + 4) j = M (t + 4) j) ∧ (∀ j : Nat, j < 12 → M' (s + 5) j = M (t + 5) j) ∧ (∀ j : Nat, j < 12 → M' (s + 6) j = M (t + 6) j) ∧ (∀ j : Nat, j < 12 → M' (s + 7) j = M (t + 7) j) ∧ (∀ j : Nat, j < 12 → M' (s + 8) j = M (t + 8) j) ∧ (∀ j : Nat, j < 72 → M' (s + 9) j = M (t + 9) j)
set_option maxHeartbeats 4000000 in
set_option maxRecDepth 100000 in
theorem ctX6_copy (Γ : Gam) (M : zM) (s : Nat) (hs : isX6 s) (t : Nat) (ht : isX6 t) (pre0 : s ≠ t) : CtV Γ yX6_copy cX6_copy 2 none 2 81 [aR Γ s, aR Γ t] M (qctX6_copy M s t) := by
  refine met_v (by decide) (Nat.le_of_ble_eq_true rfl) (fun x hx hr => ?_)
  show G Γ x 2 (QV Γ x (qctX6_copy M s t)) M 0 [(0, aR Γ s), (1, aR Γ t)] []
  refine g_aload_n (n := 1) hx 0 (dq tX6_copy 0 rfl) rfl rfl ?_
  refine g_aload_n (n := 2) hx 1 (dq tX6_copy 1 rfl) rfl rfl ?_
  refine g_getI (n := 5) hx glX6_43 (sX6_0 ht) (dq tX6_copy 2 rfl) rfl (fun h_1l h_1u => ?_)
  refine g_putI (n := 8) hx plX6_43 (sX6_0 hs) (dq tX6_copy 3 rfl) rfl (by omega) (by omega) (fun M_2 m_3e m_3 => ?_)
  refine g_aload_n (n := 9) hx 0 (dq tX6_copy 4 rfl) rfl rfl ?_
  refine g_aload_n (n := 10) hx 1 (dq tX6_copy 5 rfl) rfl rfl ?_
  refine g_getI (n := 13) hx glX6_46 (sX6_1 ht) (dq tX6_copy 6 rfl) rfl (fun h_4l h_4u => ?_)
  refine g_putI (n := 16) hx plX6_46 (sX6_1 hs) (dq tX6_copy 7 rfl) rfl (by omega) (by omega) (fun M_5 m_6e m_6 => ?_)
  refine g_aload_n (n := 17) hx 0 (dq tX6_copy 8 rfl) rfl rfl ?_
  refine g_aload_n (n := 18) hx 1 (dq tX6_copy 9 rfl) rfl rfl ?_
  refine g_getI (n := 21) hx glX6_9 (sX6_2 ht) (dq tX6_copy 10 rfl) rfl (fun h_7l h_7u => ?_)
  refine g_putI (n := 24) hx plX6_9 (sX6_2 hs) (dq tX6_copy 11 rfl) rfl (by omega) (by omega) (fun M_8 m_9e m_9 => ?_)
  refine g_aload_n (n := 25) hx 0 (dq tX6_copy 12 rfl) rfl rfl ?_
  refine g_aload_n (n := 26) hx 1 (dq tX6_copy 13 rfl) rfl rfl ?_
  refine g_getI (n := 29) hx glX6_49 (sX6_3 ht) (dq tX6_copy 14 rfl) rfl (fun h_10l h_10u => ?_)
  refine g_putI (n := 32) hx plX6_49 (sX6_3 hs) (dq tX6_copy 15 rfl) rfl (by omega) (by omega) (fun M_11 m_12e m_12 => ?_)
  refine g_aload_n (n := 33) hx 0 (dq tX6_copy 16 rfl) rfl rfl ?_
  refine g_aload_n (n := 34) hx 1 (dq tX6_copy 17 rfl) rfl rfl ?_
  refine g_getI (n := 37) hx glX6_52 (sX6_4 ht) (dq tX6_copy 18 rfl) rfl (fun h_13l h_13u => ?_)
  refine g_putI (n := 40) hx plX6_52 (sX6_4 hs) (dq tX6_copy 19 rfl) rfl (by omega) (by omega) (fun M_14 m_15e m_15 => ?_)
  refine g_aload_n (n := 41) hx 0 (dq tX6_copy 20 rfl) rfl rfl ?_
  refine g_aload_n (n := 42) hx 1 (dq tX6_copy 21 rfl) rfl rfl ?_
  refine g_getI (n := 45) hx glX6_60 (sX6_5 ht) (dq tX6_copy 22 rfl) rfl (fun h_16l h_16u => ?_)
  refine g_putI (n := 48) hx plX6_60 (sX6_5 hs) (dq tX6_copy 23 rfl) rfl (by omega) (by omega) (fun M_17 m_18e m_18 => ?_)
  refine g_aload_n (n := 49) hx 1 (dq tX6_copy 24 rfl) rfl rfl ?_
  refine g_getR (n := 52) hx glX6_15 (sX6_6 ht) (dq tX6_copy 25 rfl) rfl ?_
  refine g_aload_n (n := 53) hx 0 (dq tX6_copy 26 rfl) rfl rfl ?_
  refine g_getR (n := 56) hx glX6_15 (sX6_6 hs) (dq tX6_copy 27 rfl) rfl ?_
  refine g_callNv (n := 59) (As := [aR Γ (t + 1), aR Γ (s + 1)]) (rest := []) hx (ctX9_copyRow Γ M_17 (t + 1) (s + 1) 6 (aX6_6 (b := t) ht) (aX6_6 (b := s) hs) (by decide) (by decide) (by decide)) mlX6_70 (dq tX6_copy 28 rfl) rfl (Nat.le_of_ble_eq_true rfl) (Nat.le_of_ble_eq_true rfl) (Nat.le_of_ble_eq_true rfl) rfl (fun M_20 p_22 => ?_)
  obtain ⟨f_23, e_24⟩ := p_22
  refine g_aload_n (n := 60) hx 1 (dq tX6_copy 29 rfl) rfl rfl ?_
  refine g_getR (n := 63) hx glX6_19 (sX6_7 ht) (dq tX6_copy 30 rfl) rfl ?_
  refine g_aload_n (n := 64) hx 0 (dq tX6_copy 31 rfl) rfl rfl ?_
  refine g_getR (n := 67) hx glX6_19 (sX6_7 hs) (dq tX6_copy 32 rfl) rfl ?_
  refine g_callNv (n := 70) (As := [aR Γ (t + 2), aR Γ (s + 2)]) (rest := []) hx (ctX9_copyRow Γ M_20 (t + 2) (s + 2) 9 (aX6_7 (b := t) ht) (aX6_7 (b := s) hs) (by decide) (by decide) (by decide)) mlX6_70 (dq tX6_copy 33 rfl) rfl (Nat.le_of_ble_eq_true rfl) (Nat.le_of_ble_eq_true rfl) (Nat.le_of_ble_eq_true rfl) rfl (fun M_26 p_28 => ?_)
  obtain ⟨f_29, e_30⟩ := p_28
  refine g_aload_n (n := 71) hx 1 (dq tX6_copy 34 rfl) rfl rfl ?_
  refine g_getR (n := 74) hx glX6_22 (sX6_8 ht) (dq tX6_copy 35 rfl) rfl ?_
  refine g_aload_n (n := 75) hx 0 (dq tX6_copy 36 rfl) rfl rfl ?_
  refine g_getR (n := 78) hx glX6_22 (sX6_8 hs) (dq tX6_copy 37 rfl) rfl ?_
  refine g_callNv (n := 81) (As := [aR Γ (t + 3), aR Γ (s + 3)]) (rest := []) hx (ctX9_copyRow Γ M_26 (t + 3) (s + 3) 12 (aX6_8 (b := t) ht) (aX6_8 (b := s) hs) (by decide) (by decide) (by decide)) mlX6_70 (dq tX6_copy 38 rfl) rfl (Nat.le_of_ble_eq_true rfl) (Nat.le_of_ble_eq_true rfl) (Nat.le_of_ble_eq_true rfl) rfl (fun M_32 p_34 => ?_)
  obtain ⟨f_35, e_36⟩ := p_34
  refine g_aload_n (n := 82) hx 1 (dq tX6_copy 39 rfl) rfl rfl ?_
  refine g_getR (n := 85) hx glX6_25 (sX6_9 ht) (dq tX6_copy 40 rfl) rfl ?_
  refine g_aload_n (n := 86) hx 0 (dq tX6_copy 41 rfl) rfl rfl ?_
  refine g_getR (n := 89) hx glX6_25 (sX6_9 hs) (dq tX6_copy 42 rfl) rfl ?_
  refine g_callNv (n := 92) (As := [aR Γ (t + 4), aR Γ (s + 4)]) (rest := []) hx (ctX9_copyRow Γ M_32 (t + 4) (s + 4) 12 (aX6_9 (b := t) ht) (aX6_9 (b := s) hs) (by decide) (by decide) (by decide)) mlX6_70 (dq tX6_copy 43 rfl) rfl (Nat.le_of_ble_eq_true rfl) (Nat.le_of_ble_eq_true rfl) (Nat.le_of_ble_eq_true rfl) rfl (fun M_38 p_40 => ?_)
  obtain ⟨f_41, e_42⟩ := p_40
  refine g_aload_n (n := 93) hx 1 (dq tX6_copy 44 rfl) rfl rfl ?_
  refine g_getR (n := 96) hx glX6_28 (sX6_10 ht) (dq tX6_copy 45 rfl) rfl ?_
  refine g_aload_n (n := 97) hx 0 (dq tX6_copy 46 rfl) rfl rfl ?_
  refine g_getR (n := 100) hx glX6_28 (sX6_10 hs) (dq tX6_copy 47 rfl) rfl ?_
  refine g_callNv (n := 103) (As := [aR Γ (t + 5), aR Γ (s + 5)]) (rest := []) hx (ctX9_copyRow Γ M_38 (t + 5) (s + 5) 12 (aX6_10 (b := t) ht) (aX6_10 (b := s) hs) (by decide) (by decide) (by decide)) mlX6_70 (dq tX6_copy 48 rfl) rfl (Nat.le_of_ble_eq_true rfl) (Nat.le_of_ble_eq_true rfl) (Nat.le_of_ble_eq_true rfl) rfl (fun M_44 p_46 => ?_)
  obtain ⟨f_47, e_48⟩ := p_46
  refine g_aload_n (n := 104) hx 1 (dq tX6_copy 49 rfl) rfl rfl ?_
  refine g_getR (n := 107) hx glX6_31 (sX6_11 ht) (dq tX6_copy 50 rfl) rfl ?_
  refine g_aload_n (n := 108) hx 0 (dq tX6_copy 51 rfl) rfl rfl ?_
  refine g_getR (n := 111) hx glX6_31 (sX6_11 hs) (dq tX6_copy 52 rfl) rfl ?_
  refine g_callNv (n := 114) (As := [aR Γ (t + 6), aR Γ (s + 6)]) (rest := []) hx (ctX9_copyRow Γ M_44 (t + 6) (s + 6) 12 (aX6_11 (b := t) ht) (aX6_11 (b := s) hs) (by decide) (by decide) (by decide)) mlX6_70 (dq tX6_copy 53 rfl) rfl (Nat.le_of_ble_eq_true rfl) (Nat.le_of_ble_eq_true rfl) (Nat.le_of_ble_eq_true rfl) rfl (fun M_50 p_52 => ?_)
  obtain ⟨f_53, e_54⟩ := p_52
  refine g_aload_n (n := 115) hx 1 (dq tX6_copy 54 rfl) rfl rfl ?_
  refine g_getR (n := 118) hx glX6_34 (sX6_12 ht) (dq tX6_copy 55 rfl) rfl ?_
  refine g_aload_n (n := 119) hx 0 (dq tX6_copy 56 rfl) rfl rfl ?_
  refine g_getR (n := 122) hx glX6_34 (sX6_12 hs) (dq tX6_copy 57 rfl) rfl ?_
  refine g_callNv (n := 125) (As := [aR Γ (t + 7), aR Γ (s + 7)]) (rest := []) hx (ctX9_copyRow Γ M_50 (t + 7) (s + 7) 12 (aX6_12 (b := t) ht) (aX6_12 (b := s) hs) (by decide) (by decide) (by decide)) mlX6_70 (dq tX6_copy 58 rfl) rfl (Nat.le_of_ble_eq_true rfl) (Nat.le_of_ble_eq_true rfl) (Nat.le_of_ble_eq_true rfl) rfl (fun M_56 p_58 => ?_)
  obtain ⟨f_59, e_60⟩ := p_58
  refine g_aload_n (n := 126) hx 1 (dq tX6_copy 59 rfl) rfl rfl ?_
  refine g_getR (n := 129) hx glX6_37 (sX6_13 ht) (dq tX6_copy 60 rfl) rfl ?_
  refine g_aload_n (n := 130) hx 0 (dq tX6_copy 61 rfl) rfl rfl ?_
  refine g_getR (n := 133) hx glX6_37 (sX6_13 hs) (dq tX6_copy 62 rfl) rfl ?_
  refine g_callNv (n := 136) (As := [aR Γ (t + 8), aR Γ (s + 8)]) (rest := []) hx (ctX9_copyRow Γ M_56 (t + 8) (s + 8) 12 (aX6_13 (b := t) ht) (aX6_13 (b := s) hs) (by decide) (by decide) (by decide)) mlX6_70 (dq tX6_copy 63 rfl) rfl (Nat.le_of_ble_eq_true rfl) (Nat.le_of_ble_eq_true rfl) (Nat.le_of_ble_eq_true rfl) rfl (fun M_62 p_64 => ?_)
  obtain ⟨f_65, e_66⟩ := p_64
  refine g_aload_n (n := 137) hx 1 (dq tX6_copy 64 rfl) rfl rfl ?_
  refine g_getR (n := 140) hx glX6_40 (sX6_14 ht) (dq tX6_copy 65 rfl) rfl ?_
  refine g_aload_n (n := 141) hx 0 (dq tX6_copy 66 rfl) rfl rfl ?_
  refine g_getR (n := 144) hx glX6_40 (sX6_14 hs) (dq tX6_copy 67 rfl) rfl ?_
  refine g_callNv (n := 147) (As := [aR Γ (t + 9), aR Γ (s + 9)]) (rest := []) hx (ctX9_copyRow Γ M_62 (t + 9) (s + 9) 72 (aX6_14 (b := t) ht) (aX6_14 (b := s) hs) (by decide) (by decide) (by decide)) mlX6_70 (dq tX6_copy 68 rfl) rfl (Nat.le_of_ble_eq_true rfl) (Nat.le_of_ble_eq_true rfl) (Nat.le_of_ble_eq_true rfl) rfl (fun M_68 p_70 => ?_)
  obtain ⟨f_71, e_72⟩ := p_70
  exact g_vret hx hr (dq tX6_copy 69 rfl) ⟨(fun u_ v_ huv_ => (((((((((((((((f_71 u_ v_ (by omega)).trans (f_65 u_ v_ (by omega))).trans (f_59 u_ v_ (by omega))).trans (f_53 u_ v_ (by omega))).trans (f_47 u_ v_ (by omega))).trans (f_41 u_ v_ (by omega))).trans (f_35 u_ v_ (by omega))).trans (f_29 u_ v_ (by omega))).trans (f_23 u_ v_ (by omega))).trans (m_18 u_ v_ (by omega))).trans (m_15 u_ v_ (by omega))).trans (m_12 u_ v_ (by omega))).trans (m_9 u_ v_ (by omega))).trans (m_6 u_ v_ (by omega))).trans (m_3 u_ v_ (by omega)))), ((((((((((((((((f_71 s 0 (by omega)).trans (f_65 s 0 (by omega))).trans (f_59 s 0 (by omega))).trans (f_53 s 0 (by omega))).trans (f_47 s 0 (by omega))).trans (f_41 s 0 (by omega))).trans (f_35 s 0 (by omega))).trans (f_29 s 0 (by omega))).trans (f_23 s 0 (by omega))).trans (m_18 s 0 (by omega))).trans (m_15 s 0 (by omega))).trans (m_12 s 0 (by omega))).trans (m_9 s 0 (by omega))).trans (m_6 s 0 (by omega)))).trans ((m_3e).trans (rfl))), (((((((((((((((f_71 s 1 (by omega)).trans (f_65 s 1 (by omega))).trans (f_59 s 1 (by omega))).trans (f_53 s 1 (by omega))).trans (f_47 s 1 (by omega))).trans (f_41 s 1 (by omega))).trans (f_35 s 1 (by omega))).trans (f_29 s 1 (by omega))).trans (f_23 s 1 (by omega))).trans (m_18 s 1 (by omega))).trans (m_15 s 1 (by omega))).trans (m_12 s 1 (by omega))).trans (m_9 s 1 (by omega)))).trans ((m_6e).trans ((m_3 t 1 (by omega))))), ((((((((((((((f_71 s 2 (by omega)).trans (f_65 s 2 (by omega))).trans (f_59 s 2 (by omega))).trans (f_53 s 2 (by omega))).trans (f_47 s 2 (by omega))).trans (f_41 s 2 (by omega))).trans (f_35 s 2 (by omega))).trans (f_29 s 2 (by omega))).trans (f_23 s 2 (by omega))).trans (m_18 s 2 (by omega))).trans (m_15 s 2 (by omega))).trans (m_12 s 2 (by omega)))).trans ((m_9e).trans (((m_6 t 2 (by omega)).trans (m_3 t 2 (by omega)))))), (((((((((((((f_71 s 3 (by omega)).trans (f_65 s 3 (by omega))).trans (f_59 s 3 (by omega))).trans (f_53 s 3 (by omega))).trans (f_47 s 3 (by omega))).trans (f_41 s 3 (by omega))).trans (f_35 s 3 (by omega))).trans (f_29 s 3 (by omega))).trans (f_23 s 3 (by omega))).trans (m_18 s 3 (by omega))).trans (m_15 s 3 (by omega)))).trans ((m_12e).trans ((((m_9 t 3 (by omega)).trans (m_6 t 3 (by omega))).trans (m_3 t 3 (by omega)))))), ((((((((((((f_71 s 4 (by omega)).trans (f_65 s 4 (by omega))).trans (f_59 s 4 (by omega))).trans (f_53 s 4 (by omega))).trans (f_47 s 4 (by omega))).trans (f_41 s 4 (by omega))).trans (f_35 s 4 (by omega))).trans (f_29 s 4 (by omega))).trans (f_23 s 4 (by omega))).trans (m_18 s 4 (by omega)))).trans ((m_15e).trans (((((m_12 t 4 (by omega)).trans (m_9 t 4 (by omega))).trans (m_6 t 4 (by omega))).trans (m_3 t 4 (by omega)))))), (((((((((((f_71 s 5 (by omega)).trans (f_65 s 5 (by omega))).trans (f_59 s 5 (by omega))).trans (f_53 s 5 (by omega))).trans (f_47 s 5 (by omega))).trans (f_41 s 5 (by omega))).trans (f_35 s 5 (by omega))).trans (f_29 s 5 (by omega))).trans (f_23 s 5 (by omega)))).trans ((m_18e).trans ((((((m_15 t 5 (by omega)).trans (m_12 t 5 (by omega))).trans (m_9 t 5 (by omega))).trans (m_6 t 5 (by omega))).trans (m_3 t 5 (by omega)))))), (fun j hj => (((((((((f_71 (s + 1) j (by omega)).trans (f_65 (s + 1) j (by omega))).trans (f_59 (s + 1) j (by omega))).trans (f_53 (s + 1) j (by omega))).trans (f_47 (s + 1) j (by omega))).trans (f_41 (s + 1) j (by omega))).trans (f_35 (s + 1) j (by omega))).trans (f_29 (s + 1) j (by omega)))).trans ((e_24 j hj).trans (((((((m_18 (t + 1) j (by omega)).trans (m_15 (t + 1) j (by omega))).trans (m_12 (t + 1) j (by omega))).trans (m_9 (t + 1) j (by omega))).trans (m_6 (t + 1) j (by omega))).trans (m_3 (t + 1) j (by omega)))))), (fun j hj => ((((((((f_71 (s + 2) j (by omega)).trans (f_65 (s + 2) j (by omega))).trans (f_59 (s + 2) j (by omega))).trans (f_53 (s + 2) j (by omega))).trans (f_47 (s + 2) j (by omega))).trans (f_41 (s + 2) j (by omega))).trans (f_35 (s + 2) j (by omega)))).trans ((e_30 j hj).trans ((((((((f_23 (t + 2) j (by omega)).trans (m_18 (t + 2) j (by omega))).trans (m_15 (t + 2) j (by omega))).trans (m_12 (t + 2) j (by omega))).trans (m_9 (t + 2) j (by omega))).trans (m_6 (t + 2) j (by omega))).trans (m_3 (t + 2) j (by omega)))))), (fun j hj => (((((((f_71 (s + 3) j (by omega)).trans (f_65 (s + 3) j (by omega))).trans (f_59 (s + 3) j (by omega))).trans (f_53 (s + 3) j (by omega))).trans (f_47 (s + 3) j (by omega))).trans (f_41 (s + 3) j (by omega)))).trans ((e_36 j hj).trans (((((((((f_29 (t + 3) j (by omega)).trans (f_23 (t + 3) j (by omega))).trans (m_18 (t + 3) j (by omega))).trans (m_15 (t + 3) j (by omega))).trans (m_12 (t + 3) j (by omega))).trans (m_9 (t + 3) j (by omega))).trans (m_6 (t + 3) j (by omega))).trans (m_3 (t + 3) j (by omega)))))), (fun j hj => ((((((f_71 (s + 4) j (by omega)).trans (f_65 (s + 4) j (by omega))).trans (f_59 (s + 4) j (by omega))).trans (f_53 (s + 4) j (by omega))).trans (f_47 (s + 4) j (by omega)))).trans ((e_42 j hj).trans ((((((((((f_35 (t + 4) j (by omega)).trans (f_29 (t + 4) j (by omega))).trans (f_23 (t + 4) j (by omega))).trans (m_18 (t + 4) j (by omega))).trans (m_15 (t + 4) j (by omega))).trans (m_12 (t + 4) j (by omega))).trans (m_9 (t + 4) j (by omega))).trans (m_6 (t + 4) j (by omega))).trans (m_3 (t + 4) j (by omega)))))), (fun j hj => (((((f_71 (s + 5) j (by omega)).trans (f_65 (s + 5) j (by omega))).trans (f_59 (s + 5) j (by omega))).trans (f_53 (s + 5) j (by omega)))).trans ((e_48 j hj).trans (((((((((((f_41 (t + 5) j (by omega)).trans (f_35 (t + 5) j (by omega))).trans (f_29 (t + 5) j (by omega))).trans (f_23 (t + 5) j (by omega))).trans (m_18 (t + 5) j (by omega))).trans (m_15 (t + 5) j (by omega))).trans (m_12 (t + 5) j (by omega))).trans (m_9 (t + 5) j (by omega))).trans (m_6 (t + 5) j (by omega))).trans (m_3 (t + 5) j (by omega)))))), (fun j hj => ((((f_71 (s + 6) j (by omega)).trans (f_65 (s + 6) j (by omega))).trans (f_59 (s + 6) j (by omega)))).trans ((e_54 j hj).trans ((((((((((((f_47 (t + 6) j (by omega)).trans (f_41 (t + 6) j (by omega))).trans (f_35 (t + 6) j (by omega))).trans (f_29 (t + 6) j (by omega))).trans (f_23 (t + 6) j (by omega))).trans (m_18 (t + 6) j (by omega))).trans (m_15 (t + 6) j (by omega))).trans (m_12 (t + 6) j (by omega))).trans (m_9 (t + 6) j (by omega))).trans (m_6 (t + 6) j (by omega))).trans (m_3 (t + 6) j (by omega)))))), (fun j hj => (((f_71 (s + 7) j (by omega)).trans (f_65 (s + 7) j (by omega)))).trans ((e_60 j hj).trans (((((((((((((f_53 (t + 7) j (by omega)).trans (f_47 (t + 7) j (by omega))).trans (f_41 (t + 7) j (by omega))).trans (f_35 (t + 7) j (by omega))).trans (f_29 (t + 7) j (by omega))).trans (f_23 (t + 7) j (by omega))).trans (m_18 (t + 7) j (by omega))).trans (m_15 (t + 7) j (by omega))).trans (m_12 (t + 7) j (by omega))).trans (m_9 (t + 7) j (by omega))).trans (m_6 (t + 7) j (by omega))).trans (m_3 (t + 7) j (by omega)))))), (fun j hj => ((f_71 (s + 8) j (by omega))).trans ((e_66 j hj).trans ((((((((((((((f_59 (t + 8) j (by omega)).trans (f_53 (t + 8) j (by omega))).trans (f_47 (t + 8) j (by omega))).trans (f_41 (t + 8) j (by omega))).trans (f_35 (t + 8) j (by omega))).trans (f_29 (t + 8) j (by omega))).trans (f_23 (t + 8) j (by omega))).trans (m_18 (t + 8) j (by omega))).trans (m_15 (t + 8) j (by omega))).trans (m_12 (t + 8) j (by omega))).trans (m_9 (t + 8) j (by omega))).trans (m_6 (t + 8) j (by omega))).trans (m_3 (t + 8) j (by omega)))))), (fun j hj => (rfl).trans ((e_72 j hj).trans (((((((((((((((f_65 (t + 9) j (by omega)).trans (f_59 (t + 9) j (by omega))).trans (f_53 (t + 9) j (by omega))).trans (f_47 (t + 9) j (by omega))).trans (f_41 (t + 9) j (by omega))).trans (f_35 (t + 9) j (by omega))).trans (f_29 (t + 9) j (by omega))).trans (f_23 (t + 9) j (by omega))).trans (m_18 (t + 9) j (by omega))).trans (m_15 (t + 9) j (by omega))).trans (m_12 (t + 9) j (by omega))).trans (m_9 (t + 9) j (by omega))).trans (m_6 (t + 9) j (by omega))).trans (m_3 (t + 9) j (by omega))))))⟩

abbrev qctX0_copy (M : zM) (s : Nat) (t : Nat) (M' : zM) : Prop := (∀ u_ v_, (u_ < s ∨ s + 13 ≤ u_) → M' u_ v_ = M u_ v_) ∧ (M' s 0 = M t 0) ∧ (M' s 1 = M t 1) ∧ (M' s 4 = M t 4) ∧ (M' s 6 = M t 6) ∧ (M' s 11 = M t 11) ∧ (∀ j : Nat, j < 6 → M' (s + 1) j = M (t + 1) j) ∧ (∀ j : Nat, j < 36 → M' (s + 2) j = M (t + 2) j) ∧ (∀ j : Nat, j < 20 → M' (s + 3) j = M (t + 3) j) ∧ (∀ j : Nat, j < 20 → M' (s + 4) j = M (t + 4) j) ∧ (∀ j : Nat, j < 20 → M' (s + 5) j = M (t + 5) j) ∧ (∀ j : Nat, j < 20 → M' (s + 6) j = M (t + 6) j) ∧ (∀ j : Nat, j < 20 → M' (s + 7) j = M (t + 7) j) ∧ (∀ j : Nat, j < 12 → M' (s + 8) j = M (t + 8) j) ∧ (∀ j : Nat, j < 12 → M' (s + 9) j = M (t + 9) j) ∧ (∀ j : Nat, j < 12 → M' (s + 10) j = M (t + 10) j) ∧ (∀ j : Nat, j < 12 → M' (s + 11) j = M (t + 11) j) ∧ (∀ j : Nat, j < 360 → M' (s + 12) j = M (t + 12) j)
set_option maxHeartbeats 4000000 in
set_option maxRecDepth 100000 in
theorem ctX0_copy (Γ : Gam) (M : zM) (s : Nat) (hs : isX0 s) (t : Nat) (ht : isX0 t) (pre0 : s ≠ t) : CtV Γ yX0_copy cX0_copy 2 none 2 81 [aR Γ s, aR Γ t] M (qctX0_copy M s t) := by
  refine met_v (by decide) (Nat.le_of_ble_eq_true rfl) (fun x hx hr => ?_)
  show G Γ x 2 (QV Γ x (qctX0_copy M s t)) M 0 [(0, aR Γ s), (1, aR Γ t)] []
  refine g_aload_n (n := 1) hx 0 (dq tX0_copy 0 rfl) rfl rfl ?_
  refine g_aload_n (n := 2) hx 1 (dq tX0_copy 1 rfl) rfl rfl ?_
  refine g_getI (n := 5) hx glX0_67 (sX0_0 ht) (dq tX0_copy 2 rfl) rfl (fun h_1l h_1u => ?_)
  refine g_putI (n := 8) hx plX0_67 (sX0_0 hs) (dq tX0_copy 3 rfl) rfl (by omega) (by omega) (fun M_2 m_3e m_3 => ?_)
  refine g_aload_n (n := 9) hx 0 (dq tX0_copy 4 rfl) rfl rfl ?_
  refine g_aload_n (n := 10) hx 1 (dq tX0_copy 5 rfl) rfl rfl ?_
  refine g_getI (n := 13) hx glX0_48 (sX0_1 ht) (dq tX0_copy 6 rfl) rfl (fun h_4l h_4u => ?_)
  refine g_putI (n := 16) hx plX0_48 (sX0_1 hs) (dq tX0_copy 7 rfl) rfl (by omega) (by omega) (fun M_5 m_6e m_6 => ?_)
  refine g_aload_n (n := 17) hx 1 (dq tX0_copy 8 rfl) rfl rfl ?_
  refine g_getR (n := 20) hx glX0_9 (sX0_2 ht) (dq tX0_copy 9 rfl) rfl ?_
  refine g_aload_n (n := 21) hx 0 (dq tX0_copy 10 rfl) rfl rfl ?_
  refine g_getR (n := 24) hx glX0_9 (sX0_2 hs) (dq tX0_copy 11 rfl) rfl ?_
  refine g_callNv (n := 27) (As := [aR Γ (t + 1), aR Γ (s + 1)]) (rest := []) hx (ctX9_copyRow Γ M_5 (t + 1) (s + 1) 6 (aX0_2 (b := t) ht) (aX0_2 (b := s) hs) (by decide) (by decide) (by decide)) mlX0_70 (dq tX0_copy 12 rfl) rfl (Nat.le_of_ble_eq_true rfl) (Nat.le_of_ble_eq_true rfl) (Nat.le_of_ble_eq_true rfl) rfl (fun M_8 p_10 => ?_)
  obtain ⟨f_11, e_12⟩ := p_10
  refine g_aload_n (n := 28) hx 1 (dq tX0_copy 13 rfl) rfl rfl ?_
  refine g_getR (n := 31) hx glX0_15 (sX0_3 ht) (dq tX0_copy 14 rfl) rfl ?_
  refine g_aload_n (n := 32) hx 0 (dq tX0_copy 15 rfl) rfl rfl ?_
  refine g_getR (n := 35) hx glX0_15 (sX0_3 hs) (dq tX0_copy 16 rfl) rfl ?_
  refine g_callNv (n := 38) (As := [aR Γ (t + 2), aR Γ (s + 2)]) (rest := []) hx (ctX9_copyRow Γ M_8 (t + 2) (s + 2) 36 (aX0_3 (b := t) ht) (aX0_3 (b := s) hs) (by decide) (by decide) (by decide)) mlX0_70 (dq tX0_copy 17 rfl) rfl (Nat.le_of_ble_eq_true rfl) (Nat.le_of_ble_eq_true rfl) (Nat.le_of_ble_eq_true rfl) rfl (fun M_14 p_16 => ?_)
  obtain ⟨f_17, e_18⟩ := p_16
  refine g_aload_n (n := 39) hx 0 (dq tX0_copy 18 rfl) rfl rfl ?_
  refine g_aload_n (n := 40) hx 1 (dq tX0_copy 19 rfl) rfl rfl ?_
  refine g_getI (n := 43) hx glX0_58 (sX0_4 ht) (dq tX0_copy 20 rfl) rfl (fun h_19l h_19u => ?_)
  refine g_putI (n := 46) hx plX0_58 (sX0_4 hs) (dq tX0_copy 21 rfl) rfl (by omega) (by omega) (fun M_20 m_21e m_21 => ?_)
  refine g_aload_n (n := 47) hx 1 (dq tX0_copy 22 rfl) rfl rfl ?_
  refine g_getR (n := 50) hx glX0_18 (sX0_5 ht) (dq tX0_copy 23 rfl) rfl ?_
  refine g_aload_n (n := 51) hx 0 (dq tX0_copy 24 rfl) rfl rfl ?_
  refine g_getR (n := 54) hx glX0_18 (sX0_5 hs) (dq tX0_copy 25 rfl) rfl ?_
  refine g_callNv (n := 57) (As := [aR Γ (t + 3), aR Γ (s + 3)]) (rest := []) hx (ctX9_copyRow Γ M_20 (t + 3) (s + 3) 20 (aX0_5 (b := t) ht) (aX0_5 (b := s) hs) (by decide) (by decide) (by decide)) mlX0_70 (dq tX0_copy 26 rfl) rfl (Nat.le_of_ble_eq_true rfl) (Nat.le_of_ble_eq_true rfl) (Nat.le_of_ble_eq_true rfl) rfl (fun M_23 p_25 => ?_)
  obtain ⟨f_26, e_27⟩ := p_25
  refine g_aload_n (n := 58) hx 0 (dq tX0_copy 27 rfl) rfl rfl ?_
  refine g_aload_n (n := 59) hx 1 (dq tX0_copy 28 rfl) rfl rfl ?_
  refine g_getI (n := 62) hx glX0_61 (sX0_6 ht) (dq tX0_copy 29 rfl) rfl (fun h_28l h_28u => ?_)
  refine g_putI (n := 65) hx plX0_61 (sX0_6 hs) (dq tX0_copy 30 rfl) rfl (by omega) (by omega) (fun M_29 m_30e m_30 => ?_)
  refine g_aload_n (n := 66) hx 1 (dq tX0_copy 31 rfl) rfl rfl ?_
  refine g_getR (n := 69) hx glX0_21 (sX0_7 ht) (dq tX0_copy 32 rfl) rfl ?_
  refine g_aload_n (n := 70) hx 0 (dq tX0_copy 33 rfl) rfl rfl ?_
  refine g_getR (n := 73) hx glX0_21 (sX0_7 hs) (dq tX0_copy 34 rfl) rfl ?_
  refine g_callNv (n := 76) (As := [aR Γ (t + 4), aR Γ (s + 4)]) (rest := []) hx (ctX9_copyRow Γ M_29 (t + 4) (s + 4) 20 (aX0_7 (b := t) ht) (aX0_7 (b := s) hs) (by decide) (by decide) (by decide)) mlX0_70 (dq tX0_copy 35 rfl) rfl (Nat.le_of_ble_eq_true rfl) (Nat.le_of_ble_eq_true rfl) (Nat.le_of_ble_eq_true rfl) rfl (fun M_32 p_34 => ?_)
  obtain ⟨f_35, e_36⟩ := p_34
  refine g_aload_n (n := 77) hx 1 (dq tX0_copy 36 rfl) rfl rfl ?_
  refine g_getR (n := 80) hx glX0_24 (sX0_8 ht) (dq tX0_copy 37 rfl) rfl ?_
  refine g_aload_n (n := 81) hx 0 (dq tX0_copy 38 rfl) rfl rfl ?_
  refine g_getR (n := 84) hx glX0_24 (sX0_8 hs) (dq tX0_copy 39 rfl) rfl ?_
  refine g_callNv (n := 87) (As := [aR Γ (t + 5), aR Γ (s + 5)]) (rest := []) hx (ctX9_copyRow Γ M_32 (t + 5) (s + 5) 20 (aX0_8 (b := t) ht) (aX0_8 (b := s) hs) (by decide) (by decide) (by decide)) mlX0_70 (dq tX0_copy 40 rfl) rfl (Nat.le_of_ble_eq_true rfl) (Nat.le_of_ble_eq_true rfl) (Nat.le_of_ble_eq_true rfl) rfl (fun M_38 p_40 => ?_)
  obtain ⟨f_41, e_42⟩ := p_40
  refine g_aload_n (n := 88) hx 1 (dq tX0_copy 41 rfl) rfl rfl ?_
  refine g_getR (n := 91) hx glX0_27 (sX0_9 ht) (dq tX0_copy 42 rfl) rfl ?_
  refine g_aload_n (n := 92) hx 0 (dq tX0_copy 43 rfl) rfl rfl ?_
  refine g_getR (n := 95) hx glX0_27 (sX0_9 hs) (dq tX0_copy 44 rfl) rfl ?_
  refine g_callNv (n := 98) (As := [aR Γ (t + 6), aR Γ (s + 6)]) (rest := []) hx (ctX9_copyRow Γ M_38 (t + 6) (s + 6) 20 (aX0_9 (b := t) ht) (aX0_9 (b := s) hs) (by decide) (by decide) (by decide)) mlX0_70 (dq tX0_copy 45 rfl) rfl (Nat.le_of_ble_eq_true rfl) (Nat.le_of_ble_eq_true rfl) (Nat.le_of_ble_eq_true rfl) rfl (fun M_44 p_46 => ?_)
  obtain ⟨f_47, e_48⟩ := p_46
  refine g_aload_n (n := 99) hx 1 (dq tX0_copy 46 rfl) rfl rfl ?_
  refine g_getR (n := 102) hx glX0_30 (sX0_10 ht) (dq tX0_copy 47 rfl) rfl ?_
  refine g_aload_n (n := 103) hx 0 (dq tX0_copy 48 rfl) rfl rfl ?_
  refine g_getR (n := 106) hx glX0_30 (sX0_10 hs) (dq tX0_copy 49 rfl) rfl ?_
  refine g_callNv (n := 109) (As := [aR Γ (t + 7), aR Γ (s + 7)]) (rest := []) hx (ctX9_copyRow Γ M_44 (t + 7) (s + 7) 20 (aX0_10 (b := t) ht) (aX0_10 (b := s) hs) (by decide) (by decide) (by decide)) mlX0_70 (dq tX0_copy 50 rfl) rfl (Nat.le_of_ble_eq_true rfl) (Nat.le_of_ble_eq_true rfl) (Nat.le_of_ble_eq_true rfl) rfl (fun M_50 p_52 => ?_)
  obtain ⟨f_53, e_54⟩ := p_52
  refine g_aload_n (n := 110) hx 0 (dq tX0_copy 51 rfl) rfl rfl ?_
  refine g_aload_n (n := 111) hx 1 (dq tX0_copy 52 rfl) rfl rfl ?_
  refine g_getI (n := 114) hx glX0_64 (sX0_11 ht) (dq tX0_copy 53 rfl) rfl (fun h_55l h_55u => ?_)
  refine g_putI (n := 117) hx plX0_64 (sX0_11 hs) (dq tX0_copy 54 rfl) rfl (by omega) (by omega) (fun M_56 m_57e m_57 => ?_)
  refine g_aload_n (n := 118) hx 1 (dq tX0_copy 55 rfl) rfl rfl ?_
  refine g_getR (n := 121) hx glX0_33 (sX0_12 ht) (dq tX0_copy 56 rfl) rfl ?_
  refine g_aload_n (n := 122) hx 0 (dq tX0_copy 57 rfl) rfl rfl ?_
  refine g_getR (n := 125) hx glX0_33 (sX0_12 hs) (dq tX0_copy 58 rfl) rfl ?_
  refine g_callNv (n := 128) (As := [aR Γ (t + 8), aR Γ (s + 8)]) (rest := []) hx (ctX9_copyRow Γ M_56 (t + 8) (s + 8) 12 (aX0_12 (b := t) ht) (aX0_12 (b := s) hs) (by decide) (by decide) (by decide)) mlX0_70 (dq tX0_copy 59 rfl) rfl (Nat.le_of_ble_eq_true rfl) (Nat.le_of_ble_eq_true rfl) (Nat.le_of_ble_eq_true rfl) rfl (fun M_59 p_61 => ?_)
  obtain ⟨f_62, e_63⟩ := p_61
  refine g_aload_n (n := 129) hx 1 (dq tX0_copy 60 rfl) rfl rfl ?_
  refine g_getR (n := 132) hx glX0_36 (sX0_13 ht) (dq tX0_copy 61 rfl) rfl ?_
  refine g_aload_n (n := 133) hx 0 (dq tX0_copy 62 rfl) rfl rfl ?_
  refine g_getR (n := 136) hx glX0_36 (sX0_13 hs) (dq tX0_copy 63 rfl) rfl ?_
  refine g_callNv (n := 139) (As := [aR Γ (t + 9), aR Γ (s + 9)]) (rest := []) hx (ctX9_copyRow Γ M_59 (t + 9) (s + 9) 12 (aX0_13 (b := t) ht) (aX0_13 (b := s) hs) (by decide) (by decide) (by decide)) mlX0_70 (dq tX0_copy 64 rfl) rfl (Nat.le_of_ble_eq_true rfl) (Nat.le_of_ble_eq_true rfl) (Nat.le_of_ble_eq_true rfl) rfl (fun M_65 p_67 => ?_)
  obtain ⟨f_68, e_69⟩ := p_67
  refine g_aload_n (n := 140) hx 1 (dq tX0_copy 65 rfl) rfl rfl ?_
  refine g_getR (n := 143) hx glX0_39 (sX0_14 ht) (dq tX0_copy 66 rfl) rfl ?_
  refine g_aload_n (n := 144) hx 0 (dq tX0_copy 67 rfl) rfl rfl ?_
  refine g_getR (n := 147) hx glX0_39 (sX0_14 hs) (dq tX0_copy 68 rfl) rfl ?_
  refine g_callNv (n := 150) (As := [aR Γ (t + 10), aR Γ (s + 10)]) (rest := []) hx (ctX9_copyRow Γ M_65 (t + 10) (s + 10) 12 (aX0_14 (b := t) ht) (aX0_14 (b := s) hs) (by decide) (by decide) (by decide)) mlX0_70 (dq tX0_copy 69 rfl) rfl (Nat.le_of_ble_eq_true rfl) (Nat.le_of_ble_eq_true rfl) (Nat.le_of_ble_eq_true rfl) rfl (fun M_71 p_73 => ?_)
  obtain ⟨f_74, e_75⟩ := p_73
  refine g_aload_n (n := 151) hx 1 (dq tX0_copy 70 rfl) rfl rfl ?_
  refine g_getR (n := 154) hx glX0_42 (sX0_15 ht) (dq tX0_copy 71 rfl) rfl ?_
  refine g_aload_n (n := 155) hx 0 (dq tX0_copy 72 rfl) rfl rfl ?_
  refine g_getR (n := 158) hx glX0_42 (sX0_15 hs) (dq tX0_copy 73 rfl) rfl ?_
  refine g_callNv (n := 161) (As := [aR Γ (t + 11), aR Γ (s + 11)]) (rest := []) hx (ctX9_copyRow Γ M_71 (t + 11) (s + 11) 12 (aX0_15 (b := t) ht) (aX0_15 (b := s) hs) (by decide) (by decide) (by decide)) mlX0_70 (dq tX0_copy 74 rfl) rfl (Nat.le_of_ble_eq_true rfl) (Nat.le_of_ble_eq_true rfl) (Nat.le_of_ble_eq_true rfl) rfl (fun M_77 p_79 => ?_)
  obtain ⟨f_80, e_81⟩ := p_79
  refine g_aload_n (n := 162) hx 1 (dq tX0_copy 75 rfl) rfl rfl ?_
  refine g_getR (n := 165) hx glX0_45 (sX0_16 ht) (dq tX0_copy 76 rfl) rfl ?_
  refine g_aload_n (n := 166) hx 0 (dq tX0_copy 77 rfl) rfl rfl ?_
  refine g_getR (n := 169) hx glX0_45 (sX0_16 hs) (dq tX0_copy 78 rfl) rfl ?_
  refine g_callNv (n := 172) (As := [aR Γ (t + 12), aR Γ (s + 12)]) (rest := []) hx (ctX9_copyRow Γ M_77 (t + 12) (s + 12) 360 (aX0_16 (b := t) ht) (aX0_16 (b := s) hs) (by decide) (by decide) (by decide)) mlX0_70 (dq tX0_copy 79 rfl) rfl (Nat.le_of_ble_eq_true rfl) (Nat.le_of_ble_eq_true rfl) (Nat.le_of_ble_eq_true rfl) rfl (fun M_83 p_85 => ?_)
  obtain ⟨f_86, e_87⟩ := p_85
  exact g_vret hx hr (dq tX0_copy 80 rfl) ⟨(fun u_ v_ huv_ => (((((((((((((((((f_86 u_ v_ (by omega)).trans (f_80 u_ v_ (by omega))).trans (f_74 u_ v_ (by omega))).trans (f_68 u_ v_ (by omega))).trans (f_62 u_ v_ (by omega))).trans (m_57 u_ v_ (by omega))).trans (f_53 u_ v_ (by omega))).trans (f_47 u_ v_ (by omega))).trans (f_41 u_ v_ (by omega))).trans (f_35 u_ v_ (by omega))).trans (m_30 u_ v_ (by omega))).trans (f_26 u_ v_ (by omega))).trans (m_21 u_ v_ (by omega))).trans (f_17 u_ v_ (by omega))).trans (f_11 u_ v_ (by omega))).trans (m_6 u_ v_ (by omega))).trans (m_3 u_ v_ (by omega)))), ((((((((((((((((((f_86 s 0 (by omega)).trans (f_80 s 0 (by omega))).trans (f_74 s 0 (by omega))).trans (f_68 s 0 (by omega))).trans (f_62 s 0 (by omega))).trans (m_57 s 0 (by omega))).trans (f_53 s 0 (by omega))).trans (f_47 s 0 (by omega))).trans (f_41 s 0 (by omega))).trans (f_35 s 0 (by omega))).trans (m_30 s 0 (by omega))).trans (f_26 s 0 (by omega))).trans (m_21 s 0 (by omega))).trans (f_17 s 0 (by omega))).trans (f_11 s 0 (by omega))).trans (m_6 s 0 (by omega)))).trans ((m_3e).trans (rfl))), (((((((((((((((((f_86 s 1 (by omega)).trans (f_80 s 1 (by omega))).trans (f_74 s 1 (by omega))).trans (f_68 s 1 (by omega))).trans (f_62 s 1 (by omega))).trans (m_57 s 1 (by omega))).trans (f_53 s 1 (by omega))).trans (f_47 s 1 (by omega))).trans (f_41 s 1 (by omega))).trans (f_35 s 1 (by omega))).trans (m_30 s 1 (by omega))).trans (f_26 s 1 (by omega))).trans (m_21 s 1 (by omega))).trans (f_17 s 1 (by omega))).trans (f_11 s 1 (by omega)))).trans ((m_6e).trans ((m_3 t 1 (by omega))))), ((((((((((((((f_86 s 4 (by omega)).trans (f_80 s 4 (by omega))).trans (f_74 s 4 (by omega))).trans (f_68 s 4 (by omega))).trans (f_62 s 4 (by omega))).trans (m_57 s 4 (by omega))).trans (f_53 s 4 (by omega))).trans (f_47 s 4 (by omega))).trans (f_41 s 4 (by omega))).trans (f_35 s 4 (by omega))).trans (m_30 s 4 (by omega))).trans (f_26 s 4 (by omega)))).trans ((m_21e).trans (((((f_17 t 4 (by omega)).trans (f_11 t 4 (by omega))).trans (m_6 t 4 (by omega))).trans (m_3 t 4 (by omega)))))), ((((((((((((f_86 s 6 (by omega)).trans (f_80 s 6 (by omega))).trans (f_74 s 6 (by omega))).trans (f_68 s 6 (by omega))).trans (f_62 s 6 (by omega))).trans (m_57 s 6 (by omega))).trans (f_53 s 6 (by omega))).trans (f_47 s 6 (by omega))).trans (f_41 s 6 (by omega))).trans (f_35 s 6 (by omega)))).trans ((m_30e).trans (((((((f_26 t 6 (by omega)).trans (m_21 t 6 (by omega))).trans (f_17 t 6 (by omega))).trans (f_11 t 6 (by omega))).trans (m_6 t 6 (by omega))).trans (m_3 t 6 (by omega)))))), (((((((f_86 s 11 (by omega)).trans (f_80 s 11 (by omega))).trans (f_74 s 11 (by omega))).trans (f_68 s 11 (by omega))).trans (f_62 s 11 (by omega)))).trans ((m_57e).trans ((((((((((((f_53 t 11 (by omega)).trans (f_47 t 11 (by omega))).trans (f_41 t 11 (by omega))).trans (f_35 t 11 (by omega))).trans (m_30 t 11 (by omega))).trans (f_26 t 11 (by omega))).trans (m_21 t 11 (by omega))).trans (f_17 t 11 (by omega))).trans (f_11 t 11 (by omega))).trans (m_6 t 11 (by omega))).trans (m_3 t 11 (by omega)))))), (fun j hj => (((((((((((((((f_86 (s + 1) j (by omega)).trans (f_80 (s + 1) j (by omega))).trans (f_74 (s + 1) j (by omega))).trans (f_68 (s + 1) j (by omega))).trans (f_62 (s + 1) j (by omega))).trans (m_57 (s + 1) j (by omega))).trans (f_53 (s + 1) j (by omega))).trans (f_47 (s + 1) j (by omega))).trans (f_41 (s + 1) j (by omega))).trans (f_35 (s + 1) j (by omega))).trans (m_30 (s + 1) j (by omega))).trans (f_26 (s + 1) j (by omega))).trans (m_21 (s + 1) j (by omega))).trans (f_17 (s + 1) j (by omega)))).trans ((e_12 j hj).trans (((m_6 (t + 1) j (by omega)).trans (m_3 (t + 1) j (by omega)))))), (fun j hj => ((((((((((((((f_86 (s + 2) j (by omega)).trans (f_80 (s + 2) j (by omega))).trans (f_74 (s + 2) j (by omega))).trans (f_68 (s + 2) j (by omega))).trans (f_62 (s + 2) j (by omega))).trans (m_57 (s + 2) j (by omega))).trans (f_53 (s + 2) j (by omega))).trans (f_47 (s + 2) j (by omega))).trans (f_41 (s + 2) j (by omega))).trans (f_35 (s + 2) j (by omega))).trans (m_30 (s + 2) j (by omega))).trans (f_26 (s + 2) j (by omega))).trans (m_21 (s + 2) j (by omega)))).trans ((e_18 j hj).trans ((((f_11 (t + 2) j (by omega)).trans (m_6 (t + 2) j (by omega))).trans (m_3 (t + 2) j (by omega)))))), (fun j hj => ((((((((((((f_86 (s + 3) j (by omega)).trans (f_80 (s + 3) j (by omega))).trans (f_74 (s + 3) j (by omega))).trans (f_68 (s + 3) j (by omega))).trans (f_62 (s + 3) j (by omega))).trans (m_57 (s + 3) j (by omega))).trans (f_53 (s + 3) j (by omega))).trans (f_47 (s + 3) j (by omega))).trans (f_41 (s + 3) j (by omega))).trans (f_35 (s + 3) j (by omega))).trans (m_30 (s + 3) j (by omega)))).trans ((e_27 j hj).trans ((((((m_21 (t + 3) j (by omega)).trans (f_17 (t + 3) j (by omega))).trans (f_11 (t + 3) j (by omega))).trans (m_6 (t + 3) j (by omega))).trans (m_3 (t + 3) j (by omega)))))), (fun j hj => ((((((((((f_86 (s + 4) j (by omega)).trans (f_80 (s + 4) j (by omega))).trans (f_74 (s + 4) j (by omega))).trans (f_68 (s + 4) j (by omega))).trans (f_62 (s + 4) j (by omega))).trans (m_57 (s + 4) j (by omega))).trans (f_53 (s + 4) j (by omega))).trans (f_47 (s + 4) j (by omega))).trans (f_41 (s + 4) j (by omega)))).trans ((e_36 j hj).trans ((((((((m_30 (t + 4) j (by omega)).trans (f_26 (t + 4) j (by omega))).trans (m_21 (t + 4) j (by omega))).trans (f_17 (t + 4) j (by omega))).trans (f_11 (t + 4) j (by omega))).trans (m_6 (t + 4) j (by omega))).trans (m_3 (t + 4) j (by omega)))))), (fun j hj => (((((((((f_86 (s + 5) j (by omega)).trans (f_80 (s + 5) j (by omega))).trans (f_74 (s + 5) j (by omega))).trans (f_68 (s + 5) j (by omega))).trans (f_62 (s + 5) j (by omega))).trans (m_57 (s + 5) j (by omega))).trans (f_53 (s + 5) j (by omega))).trans (f_47 (s + 5) j (by omega)))).trans ((e_42 j hj).trans (((((((((f_35 (t + 5) j (by omega)).trans (m_30 (t + 5) j (by omega))).trans (f_26 (t + 5) j (by omega))).trans (m_21 (t + 5) j (by omega))).trans (f_17 (t + 5) j (by omega))).trans (f_11 (t + 5) j (by omega))).trans (m_6 (t + 5) j (by omega))).trans (m_3 (t + 5) j (by omega)))))), (fun j hj => ((((((((f_86 (s + 6) j (by omega)).trans (f_80 (s + 6) j (by omega))).trans (f_74 (s + 6) j (by omega))).trans (f_68 (s + 6) j (by omega))).trans (f_62 (s + 6) j (by omega))).trans (m_57 (s + 6) j (by omega))).trans (f_53 (s + 6) j (by omega)))).trans ((e_48 j hj).trans ((((((((((f_41 (t + 6) j (by omega)).trans (f_35 (t + 6) j (by omega))).trans (m_30 (t + 6) j (by omega))).trans (f_26 (t + 6) j (by omega))).trans (m_21 (t + 6) j (by omega))).trans (f_17 (t + 6) j (by omega))).trans (f_11 (t + 6) j (by omega))).trans (m_6 (t + 6) j (by omega))).trans (m_3 (t + 6) j (by omega)))))), (fun j hj => (((((((f_86 (s + 7) j (by omega)).trans (f_80 (s + 7) j (by omega))).trans (f_74 (s + 7) j (by omega))).trans (f_68 (s + 7) j (by omega))).trans (f_62 (s + 7) j (by omega))).trans (m_57 (s + 7) j (by omega)))).trans ((e_54 j hj).trans (((((((((((f_47 (t + 7) j (by omega)).trans (f_41 (t + 7) j (by omega))).trans (f_35 (t + 7) j (by omega))).trans (m_30 (t + 7) j (by omega))).trans (f_26 (t + 7) j (by omega))).trans (m_21 (t + 7) j (by omega))).trans (f_17 (t + 7) j (by omega))).trans (f_11 (t + 7) j (by omega))).trans (m_6 (t + 7) j (by omega))).trans (m_3 (t + 7) j (by omega)))))), (fun j hj => (((((f_86 (s + 8) j (by omega)).trans (f_80 (s + 8) j (by omega))).trans (f_74 (s + 8) j (by omega))).trans (f_68 (s + 8) j (by omega)))).trans ((e_63 j hj).trans (((((((((((((m_57 (t + 8) j (by omega)).trans (f_53 (t + 8) j (by omega))).trans (f_47 (t + 8) j (by omega))).trans (f_41 (t + 8) j (by omega))).trans (f_35 (t + 8) j (by omega))).trans (m_30 (t + 8) j (by omega))).trans (f_26 (t + 8) j (by omega))).trans (m_21 (t + 8) j (by omega))).trans (f_17 (t + 8) j (by omega))).trans (f_11 (t + 8) j (by omega))).trans (m_6 (t + 8) j (by omega))).trans (m_3 (t + 8) j (by omega)))))), (fun j hj => ((((f_86 (s + 9) j (by omega)).trans (f_80 (s + 9) j (by omega))).trans (f_74 (s + 9) j (by omega)))).trans ((e_69 j hj).trans ((((((((((((((f_62 (t + 9) j (by omega)).trans (m_57 (t + 9) j (by omega))).trans (f_53 (t + 9) j (by omega))).trans (f_47 (t + 9) j (by omega))).trans (f_41 (t + 9) j (by omega))).trans (f_35 (t + 9) j (by omega))).trans (m_30 (t + 9) j (by omega))).trans (f_26 (t + 9) j (by omega))).trans (m_21 (t + 9) j (by omega))).trans (f_17 (t + 9) j (by omega))).trans (f_11 (t + 9) j (by omega))).trans (m_6 (t + 9) j (by omega))).trans (m_3 (t + 9) j (by omega)))))), (fun j hj => (((f_86 (s + 10) j (by omega)).trans (f_80 (s + 10) j (by omega)))).trans ((e_75 j hj).trans (((((((((((((((f_68 (t + 10) j (by omega)).trans (f_62 (t + 10) j (by omega))).trans (m_57 (t + 10) j (by omega))).trans (f_53 (t + 10) j (by omega))).trans (f_47 (t + 10) j (by omega))).trans (f_41 (t + 10) j (by omega))).trans (f_35 (t + 10) j (by omega))).trans (m_30 (t + 10) j (by omega))).trans (f_26 (t + 10) j (by omega))).trans (m_21 (t + 10) j (by omega))).trans (f_17 (t + 10) j (by omega))).trans (f_11 (t + 10) j (by omega))).trans (m_6 (t + 10) j (by omega))).trans (m_3 (t + 10) j (by omega)))))), (fun j hj => ((f_86 (s + 11) j (by omega))).trans ((e_81 j hj).trans ((((((((((((((((f_74 (t + 11) j (by omega)).trans (f_68 (t + 11) j (by omega))).trans (f_62 (t + 11) j (by omega))).trans (m_57 (t + 11) j (by omega))).trans (f_53 (t + 11) j (by omega))).trans (f_47 (t + 11) j (by omega))).trans (f_41 (t + 11) j (by omega))).trans (f_35 (t + 11) j (by omega))).trans (m_30 (t + 11) j (by omega))).trans (f_26 (t + 11) j (by omega))).trans (m_21 (t + 11) j (by omega))).trans (f_17 (t + 11) j (by omega))).trans (f_11 (t + 11) j (by omega))).trans (m_6 (t + 11) j (by omega))).trans (m_3 (t + 11) j (by omega)))))), (fun j hj => (rfl).trans ((e_87 j hj).trans (((((((((((((((((f_80 (t + 12) j (by omega)).trans (f_74 (t + 12) j (by omega))).trans (f_68 (t + 12) j (by omega))).trans (f_62 (t + 12) j (by omega))).trans (m_57 (t + 12) j (by omega))).trans (f_53 (t + 12) j (by omega))).trans (f_47 (t + 12) j (by omega))).trans (f_41 (t + 12) j (by omega))).trans (f_35 (t + 12) j (by omega))).trans (m_30 (t + 12) j (by omega))).trans (f_26 (t + 12) j (by omega))).trans (m_21 (t + 12) j (by omega))).trans (f_17 (t + 12) j (by omega))).trans (f_11 (t + 12) j (by omega))).trans (m_6 (t + 12) j (by omega))).trans (m_3 (t + 12) j (by omega))))))⟩
