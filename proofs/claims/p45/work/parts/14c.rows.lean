abbrev qctX2_clear (M : zM) (t : Nat) (M' : zM) : Prop := (∀ u_ v_, (u_ ≠ t ∨ v_ ≠ 0) ∧ (u_ ≠ t ∨ v_ ≠ 1) ∧ (u_ ≠ t ∨ v_ ≠ 2) ∧ (u_ ≠ t ∨ v_ ≠ 3) ∧ (u_ ≠ t ∨ v_ ≠ 4) ∧ u_ ≠ t + 2 → M' u_ v_ = M u_ v_) ∧ (M' t 0 = 0) ∧ (M' t 1 = 0) ∧ (M' t 2 = 0) ∧ (M' t 3 = 0)
set_option maxHeartbeats 4000000 in
set_option maxRecDepth 100000 in
theorem ctX2_clear (Γ : Gam) (M : zM) (t : Nat) (ht : isX2 t)  : CtV Γ yX2_clear cX2_clear 1 none 1 23 [aR Γ t] M (qctX2_clear M t) := by
  refine met_v (by decide) (Nat.le_of_ble_eq_true rfl) (fun x hx hr => ?_)
  show G Γ x 1 (QV Γ x (qctX2_clear M t)) M 0 [(0, aR Γ t)] []
  refine g_aload_n (n := 1) hx 0 (dq tX2_clear 0 rfl) rfl rfl ?_
  refine g_iconst (n := 2) hx (dq tX2_clear 1 rfl) rfl ?_
  refine g_putI (n := 5) hx plX2_33 (sX2_0 ht) (dq tX2_clear 2 rfl) rfl (by omega) (by omega) (fun M_1 m_2e m_2 => ?_)
  refine g_aload_n (n := 6) hx 0 (dq tX2_clear 3 rfl) rfl rfl ?_
  refine g_iconst (n := 7) hx (dq tX2_clear 4 rfl) rfl ?_
  refine g_putI (n := 10) hx plX2_37 (sX2_1 ht) (dq tX2_clear 5 rfl) rfl (by omega) (by omega) (fun M_3 m_4e m_4 => ?_)
  refine g_aload_n (n := 11) hx 0 (dq tX2_clear 6 rfl) rfl rfl ?_
  refine g_iconst (n := 12) hx (dq tX2_clear 7 rfl) rfl ?_
  refine g_putI (n := 15) hx plX2_40 (sX2_2 ht) (dq tX2_clear 8 rfl) rfl (by omega) (by omega) (fun M_5 m_6e m_6 => ?_)
  refine g_aload_n (n := 16) hx 0 (dq tX2_clear 9 rfl) rfl rfl ?_
  refine g_iconst (n := 17) hx (dq tX2_clear 10 rfl) rfl ?_
  refine g_putI (n := 20) hx plX2_43 (sX2_3 ht) (dq tX2_clear 11 rfl) rfl (by omega) (by omega) (fun M_7 m_8e m_8 => ?_)
  refine g_aload_n (n := 21) hx 0 (dq tX2_clear 12 rfl) rfl rfl ?_
  refine g_iconst (n := 22) hx (dq tX2_clear 13 rfl) rfl ?_
  refine g_putI (n := 25) hx plX2_46 (sX2_4 ht) (dq tX2_clear 14 rfl) rfl (by omega) (by omega) (fun M_9 m_10e m_10 => ?_)
  refine g_aload_n (n := 26) hx 0 (dq tX2_clear 15 rfl) rfl rfl ?_
  refine g_getR (n := 29) hx glX2_15 (sX2_6 ht) (dq tX2_clear 16 rfl) rfl ?_
  refine g_bipush (n := 31) hx (dq tX2_clear 17 rfl) rfl (by decide) ?_
  refine g_callSv (n := 34) (As := [aR Γ (t + 2), vI 9]) (rest := []) hx (ctfill_9_9 Γ M_9 (t + 2) (aX2_6 (b := t) ht) 9 (by decide) (by decide)) mlX2_49 (dq tX2_clear 18 rfl) rfl (Nat.le_of_ble_eq_true rfl) (Nat.le_of_ble_eq_true rfl) (Nat.le_of_ble_eq_true rfl) rfl (fun M_12 p_14 => ?_)
  have f_15 := p_14
  exact g_vret hx hr (dq tX2_clear 19 rfl) ⟨(fun u_ v_ huv_ => ((((((f_15 u_ v_ (by omega)).trans (m_10 u_ v_ (by omega))).trans (m_8 u_ v_ (by omega))).trans (m_6 u_ v_ (by omega))).trans (m_4 u_ v_ (by omega))).trans (m_2 u_ v_ (by omega)))), (((((((f_15 t 0 (by omega)).trans (m_10 t 0 (by omega))).trans (m_8 t 0 (by omega))).trans (m_6 t 0 (by omega))).trans (m_4 t 0 (by omega)))).trans m_2e), ((((((f_15 t 1 (by omega)).trans (m_10 t 1 (by omega))).trans (m_8 t 1 (by omega))).trans (m_6 t 1 (by omega)))).trans m_4e), (((((f_15 t 2 (by omega)).trans (m_10 t 2 (by omega))).trans (m_8 t 2 (by omega)))).trans m_6e), ((((f_15 t 3 (by omega)).trans (m_10 t 3 (by omega)))).trans m_8e)⟩
