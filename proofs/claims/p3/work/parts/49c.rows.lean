abbrev qctX9_back2 (M : zM) (k : Int) (z : Int) (M' : zM) : Prop := (∀ u_ v_, (u_ < 37 ∨ 37 + 8 ≤ u_) ∧ (u_ < 45 + 1 ∨ 45 + 24 ≤ u_) → M' u_ v_ = M u_ v_) ∧ Gd M' 37 (45 + 1) ∧ (∀ o : Nat, (o : Int) = 101 + 32 * k → 0 ≤ k → k < 4 → M o 0 = 1 → M' (45 + 11) 0 = M (o + 19) 0) ∧ ((k < 0 ∨ 4 ≤ k) → M = M') ∧ (∀ o : Nat, (o : Int) = 101 + 32 * k → 0 ≤ k → k < 4 → M o 0 = 0 → M = M')
set_option maxHeartbeats 4000000 in
set_option maxRecDepth 100000 in
theorem ctX9_back2 (Γ : Gam) (M : zM) (k : Int) (hkl : (-2147483648) ≤ k) (hku : k ≤ 2147483647) (gd0 : Gd M 37 (45 + 1)) (ex0 : ImOk M) : CtI Γ yX9_back cX9_back 2 (some .int) 4 123 [aR Γ 0, vI k] M (qctX9_back2 M k) := by
  refine met_i (by decide) (Nat.le_of_ble_eq_true rfl) (fun x hx hr => ?_)
  show G Γ x 2 (QI Γ x (qctX9_back2 M k)) M 0 [(0, aR Γ 0), (1, vI k)] []
  refine g_iload_n (n := 1) hx 1 (dq tX9_back 0 rfl) rfl rfl ?_
  refine g_if_lt (n := 4) (t := 21) hx (dq tX9_back 1 rfl) (by decide) rfl (zrI hkl hku (by decide) (by decide)) (fun c_1 => ?_) (fun c_1 => ?_)
  · refine g_iconst (n := 22) hx (dq tX9_back 11 rfl) rfl ?_
    exact g_iret hx hr (dq tX9_back 12 rfl) ⟨by decide, by decide⟩ ⟨(fun _ _ _ => rfl), gd0, (fun o ho hk0 hk4 hm => by first | omega | (have e : o = o := (by omega); rw [e] at hm; omega)), (fun _ => rfl), (fun _ _ _ _ _ => rfl)⟩
  · refine g_iload_n (n := 5) hx 1 (dq tX9_back 2 rfl) rfl rfl ?_
    refine g_iconst (n := 6) hx (dq tX9_back 3 rfl) rfl ?_
    refine g_icmp_ge (n := 9) (t := 21) hx (dq tX9_back 4 rfl) (by decide) rfl (zrI hkl hku (by decide) (by decide)) ⟨by decide, by decide⟩ (fun c_2 => ?_) (fun c_2 => ?_)
    · refine g_iconst (n := 22) hx (dq tX9_back 11 rfl) rfl ?_
      exact g_iret hx hr (dq tX9_back 12 rfl) ⟨by decide, by decide⟩ ⟨(fun _ _ _ => rfl), gd0, (fun o ho hk0 hk4 hm => by first | omega | (have e : o = o := (by omega); rw [e] at hm; omega)), (fun _ => rfl), (fun _ _ _ _ _ => rfl)⟩
    · refine g_aload_n (n := 10) hx 0 (dq tX9_back 5 rfl) rfl rfl ?_
      refine g_getR (n := 13) hx glX9_60 (sX9_7 (by decide)) (dq tX9_back 6 rfl) rfl ?_
      refine g_iload_n (n := 14) hx 1 (dq tX9_back 7 rfl) rfl rfl ?_
      refine g_aald (n := 15) (q := k.toNat) hx (aX9_7 (b := 0) (by decide)) (by decide) (dq tX9_back 8 rfl) rfl (by omega) (by omega) (by omega) rfl ?_
      refine g_named (c := zrf 2 k.toNat) (fun o_3 eo_3 => ?_)
      have o_4 : isX1 o_3 := by rw [eo_3]; exact zrfX1 k.toNat (by omega)
      have o_4n : (o_3 : Int) = 101 + 32 * k := by rw [eo_3]; exact zrfnX1 (by omega) (by omega)
      refine g_getI (n := 18) hx glX9_424 (sX1_0 o_4) (dq tX9_back 9 rfl) rfl (fun h_5l h_5u => ?_)
      refine g_if_ne (n := 21) (t := 23) hx (dq tX9_back 10 rfl) (by decide) rfl (zrI h_5l h_5u (by decide) (by decide)) (fun c_6 => ?_) (fun c_6 => ?_)
      · refine g_aload_n (n := 24) hx 0 (dq tX9_back 13 rfl) rfl rfl ?_
        refine g_getR (n := 27) hx glX9_60 (sX9_7 (by decide)) (dq tX9_back 14 rfl) rfl ?_
        refine g_iload_n (n := 28) hx 1 (dq tX9_back 15 rfl) rfl rfl ?_
        refine g_aald (n := 29) (q := k.toNat) hx (aX9_7 (b := 0) (by decide)) (by decide) (dq tX9_back 16 rfl) rfl (by omega) (by omega) (by omega) rfl ?_
        refine g_named (c := zrf 2 k.toNat) (fun o_7 eo_7 => ?_)
        have o_8 : isX1 o_7 := by rw [eo_7]; exact zrfX1 k.toNat (by omega)
        have o_8n : (o_7 : Int) = 101 + 32 * k := by rw [eo_7]; exact zrfnX1 (by omega) (by omega)
        refine g_aload_n (n := 30) hx 0 (dq tX9_back 17 rfl) rfl rfl ?_
        refine g_getR (n := 33) hx glX9_47 (sX9_5 (by decide)) (dq tX9_back 18 rfl) rfl ?_
        have g_9e : o_7 = o_3 := by omega
        have g_9m : M o_7 0 = 1 := by rw [g_9e]; omega
        have g_9 := ex0 o_7 o_8 g_9m
        refine g_callVv (n := 36) (As := [aR Γ 45]) (rest := []) hx (ctX1_give Γ M o_7 o_8 45 (by decide) g_9) mlX9_428 (obX1 o_8) (dq tX9_back 19 rfl) rfl (Nat.le_of_ble_eq_true rfl) (Nat.le_of_ble_eq_true rfl) (Nat.le_of_ble_eq_true rfl) rfl (fun M_11 p_13 => ?_)
        obtain ⟨f_14, g_15, h_16, h_17⟩ := p_13
        refine g_aload_n (n := 37) hx 0 (dq tX9_back 20 rfl) rfl rfl ?_
        refine g_getR (n := 40) hx glX9_47 (sX9_5 (by decide)) (dq tX9_back 21 rfl) rfl ?_
        refine g_getR (n := 43) hx glX9_100 (sX8_1 (by decide)) (dq tX9_back 22 rfl) rfl ?_
        refine g_getI (n := 46) hx glX9_297 (sX6_0 (iX8_1 (by decide))) (dq tX9_back 23 rfl) rfl (fun h_20l h_20u => ?_)
        exact g_iret hx hr (dq tX9_back 24 rfl) (zrI h_20l h_20u (by decide) (by decide)) ⟨(fun u_ v_ huv_ => (f_14 u_ v_ (by omega))), h_16, (fun o ho hk0 hk4 hm => by
      have e : o = o_7 := by omega
      rw [e]
      exact h_17), (fun hk => absurd hk (by omega)), (fun o ho hk0 hk4 hm => absurd hm (by have e : o = o_7 := (by omega); rw [e]; omega))⟩
      · refine g_iconst (n := 22) hx (dq tX9_back 11 rfl) rfl ?_
        exact g_iret hx hr (dq tX9_back 12 rfl) ⟨by decide, by decide⟩ ⟨(fun _ _ _ => rfl), gd0, (fun o ho hk0 hk4 hm => by first | omega | (have e : o = o_3 := (by omega); rw [e] at hm; omega)), (fun _ => rfl), (fun _ _ _ _ _ => rfl)⟩
