abbrev qctX10_top (M : zM)  (z : Int) (M' : zM) : Prop := M = M' ∧ ((z = -1 ∧ M 229 45 = 0) ∨ (1 ≤ M 229 45 ∧ z = M (229 + 45) (M 229 45 - 1).toNat))
set_option maxHeartbeats 4000000 in
set_option maxRecDepth 100000 in
theorem ctX10_top (Γ : Gam) (M : zM)   : CtI Γ yX10_top cX10_top 1 (some .int) 0 0 [aR Γ 229] M (qctX10_top M) := by
  refine met_i (by decide) (Nat.le_of_ble_eq_true rfl) (fun x hx hr => ?_)
  show G Γ x 1 (QI Γ x (qctX10_top M)) M 0 [(0, aR Γ 229)] []
  refine g_aload_n (n := 1) hx 0 (dq tX10_top 0 rfl) rfl rfl ?_
  refine g_getI (n := 4) hx glX10_315 (sX10_45 (by decide)) (dq tX10_top 1 rfl) rfl (fun h_1l h_1u => ?_)
  refine g_if_ne (n := 7) (t := 11) hx (dq tX10_top 2 rfl) (by decide) rfl (zrI h_1l h_1u (by decide) (by decide)) (fun c_2 => ?_) (fun c_2 => ?_)
  · refine g_aload_n (n := 12) hx 0 (dq tX10_top 5 rfl) rfl rfl ?_
    refine g_getR (n := 15) hx glX10_147 (sX10_56 (by decide)) (dq tX10_top 6 rfl) rfl ?_
    refine g_aload_n (n := 16) hx 0 (dq tX10_top 7 rfl) rfl rfl ?_
    refine g_getI (n := 19) hx glX10_315 (sX10_45 (by decide)) (dq tX10_top 8 rfl) rfl (fun h_3l h_3u => ?_)
    refine g_iconst (n := 20) hx (dq tX10_top 9 rfl) rfl ?_
    refine g_isub (n := 21) hx (dq tX10_top 10 rfl) rfl ?_
    refine g_iald (n := 22) (q := ((M 229 45) - 1).toNat) hx (aX10_56 (b := 229) (by decide)) (dq tX10_top 11 rfl) rfl (by omega) (by omega) (by omega) rfl (fun h_4l h_4u => ?_)
    exact g_iret hx hr (dq tX10_top 12 rfl) (zrI h_4l h_4u (by decide) (by decide)) ⟨rfl, (by omega)⟩
  · refine g_iconst (n := 8) hx (dq tX10_top 3 rfl) rfl ?_
    refine g_goto (n := 22) hx (dq tX10_top 4 rfl) (by decide) ?_
    exact g_iret hx hr (dq tX10_top 12 rfl) ⟨by decide, by decide⟩ ⟨rfl, (by omega)⟩
