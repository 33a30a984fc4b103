abbrev qctX9_seed (M : zM) (v : Int) (z : Int) (M' : zM) : Prop := (∀ u_ v_, (u_ ≠ 45 + 11 ∨ v_ ≠ 0) → M' u_ v_ = M u_ v_) ∧ Gd M' 37 (45 + 1) ∧ (v < 0 → (z = -1 ∧ M' (45 + 11) 0 = M (45 + 11) 0)) ∧ (0 ≤ v → (z = M (45 + 11) 0 ∧ M' (45 + 11) 0 = v))
set_option maxHeartbeats 4000000 in
set_option maxRecDepth 100000 in
theorem ctX9_seed (Γ : Gam) (M : zM) (v : Int) (hvl : (-2147483648) ≤ v) (hvu : v ≤ 2147483647) (gd0 : Gd M 37 (45 + 1)) : CtI Γ yX9_seed cX9_seed 3 (some .int) 0 0 [aR Γ 0, vI v] M (qctX9_seed M v) := by
  refine met_i (by decide) (Nat.le_of_ble_eq_true rfl) (fun x hx hr => ?_)
  show G Γ x 3 (QI Γ x (qctX9_seed M v)) M 0 [(0, aR Γ 0), (1, vI v)] []
  refine g_iload_n (n := 1) hx 1 (dq tX9_seed 0 rfl) rfl rfl ?_
  refine g_if_ge (n := 4) (t := 6) hx (dq tX9_seed 1 rfl) (by decide) rfl (zrI hvl hvu (by decide) (by decide)) (fun c_1 => ?_) (fun c_1 => ?_)
  · refine g_aload_n (n := 7) hx 0 (dq tX9_seed 4 rfl) rfl rfl ?_
    refine g_getR (n := 10) hx glX9_47 (sX9_5 (by decide)) (dq tX9_seed 5 rfl) rfl ?_
    refine g_getR (n := 13) hx glX9_109 (sX8_2 (by decide)) (dq tX9_seed 6 rfl) rfl ?_
    refine g_getI (n := 16) hx glX9_387 (sX0_0 (iX8_2 (by decide))) (dq tX9_seed 7 rfl) rfl (fun h_2l h_2u => ?_)
    refine g_istore_n (n := 17) (lv' := [(2, vI (M (45 + 11) 0)), (0, aR Γ 0), (1, vI v)]) hx (dq tX9_seed 8 rfl) (by decide) rfl rfl ?_
    refine g_aload_n (n := 18) hx 1 (dq tX9_seed 9 rfl) rfl rfl ?_
    refine g_getR (n := 21) hx glX9_47 (sX9_5 (by decide)) (dq tX9_seed 10 rfl) rfl ?_
    refine g_getR (n := 24) hx glX9_109 (sX8_2 (by decide)) (dq tX9_seed 11 rfl) rfl ?_
    refine g_iload_n (n := 25) hx 2 (dq tX9_seed 12 rfl) rfl rfl ?_
    refine g_putI (n := 28) hx plX9_387 (sX0_0 (iX8_2 (by decide))) (dq tX9_seed 13 rfl) rfl (by omega) (by omega) (fun M_3 m_4e m_4 => ?_)
    have g_5 : Gd M_3 37 (45 + 1) := Gd.frame gd0 (fun c j hcj => m_4 c j (by omega))
    refine g_iload_n (n := 29) hx 0 (dq tX9_seed 14 rfl) rfl rfl ?_
    have e_6 : M_3 37 1 = M 37 1 := (m_4 37 1 (by omega))
    have e_7 : M_3 37 3 = M 37 3 := (m_4 37 3 (by omega))
    exact g_iret hx hr (dq tX9_seed 15 rfl) (zrI h_2l h_2u (by decide) (by decide)) ⟨(fun u_ v_ huv_ => (m_4 u_ v_ (by omega))), g_5, (by omega), (by omega)⟩
  · refine g_iconst (n := 5) hx (dq tX9_seed 2 rfl) rfl ?_
    exact g_iret hx hr (dq tX9_seed 3 rfl) ⟨by decide, by decide⟩ ⟨(fun _ _ _ => rfl), gd0, (by omega), (by omega)⟩
