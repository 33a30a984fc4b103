abbrev qctX10_keeps (M : zM)  (M' : zM) : Prop := (∀ u_ v_, u_ ≠ 229 + 56 ∧ (u_ ≠ 229 ∨ v_ ≠ 78) ∧ (u_ ≠ 229 ∨ v_ ≠ 79) → M' u_ v_ = M u_ v_) ∧ Gm M' ∧ Rl M' ∧ On M' ∧ (BlOk M' 4) ∧ (∀ c j : Nat, 230 ≤ c → c ≤ 257 → j < zln c → M' (229 + 56) (900 * 4 + zof c + j) = M c j) ∧ (∀ j : Nat, j < 3600 → M' (229 + 56) j = M (229 + 56) j)
set_option maxHeartbeats 4000000 in
set_option maxRecDepth 100000 in
theorem ctX10_keeps (Γ : Gam) (M : zM)  (pre0 : M (229 + 1) 7 ≤ 9999) (gm : Gm M) (rl : Rl M) (on : On M) : CtV Γ yX10_keeps cX10_keeps 1 none 2 44 [aR Γ 229] M (qctX10_keeps M) := by
  refine met_v (by decide) (Nat.le_of_ble_eq_true rfl) (fun x hx hr => ?_)
  show G Γ x 1 (QV Γ x (qctX10_keeps M)) M 0 [(0, aR Γ 229)] []
  refine g_iv (fun hI0 => ?_)
  refine g_aload_n (n := 1) hx 0 (dq tX10_keeps 0 rfl) rfl rfl ?_
  refine g_iconst (n := 2) hx (dq tX10_keeps 1 rfl) rfl ?_
  refine g_iconst (n := 3) hx (dq tX10_keeps 2 rfl) rfl ?_
  refine g_callVv (n := 6) (As := [vI 4, vI 0]) (rest := []) hx (ctX10_carries0 Γ M 4 (by decide) (by decide) 0 (by decide) (by decide)) mlX10_651 (obX10 (by decide)) (dq tX10_keeps 3 rfl) rfl (Nat.le_of_ble_eq_true rfl) (Nat.le_of_ble_eq_true rfl) (Nat.le_of_ble_eq_true rfl) rfl (fun M_2 p_4 => ?_)
  obtain ⟨f_5, h_6, h_7⟩ := p_4
  have g_8 : Gm M_2 := Gm.frame gm (fun c j hcj => f_5 c j (by omega))
  have g_9 : Rl M_2 := Rl.frame rl (fun c j hcj => f_5 c j (by omega))
  have g_10 : On M_2 := On.frame on (fun c j hcj => f_5 c j (by omega))
  have e_11 : M_2 (229 + 1) 1 = M (229 + 1) 1 := (f_5 (229 + 1) 1 (by omega))
  have e_12 : M_2 (229 + 1) 3 = M (229 + 1) 3 := (f_5 (229 + 1) 3 (by omega))
  exact g_vret hx hr (dq tX10_keeps 4 rfl) ⟨(fun u_ v_ huv_ => (f_5 u_ v_ (by omega))), g_8, g_9, g_10, (BlOk.take hI0 gm on rl pre0 (f_5 229 41 (by omega)) h_6), h_6, (fun j hj => h_7 j (Or.inl hj))⟩

abbrev qctX10_laysBack (M : zM)  (M' : zM) : Prop := (∀ u_ v_, (u_ < 229 + 1 ∨ 229 + 29 ≤ u_) ∧ (u_ ≠ 229 ∨ v_ ≠ 78) ∧ (u_ ≠ 229 ∨ v_ ≠ 79) → M' u_ v_ = M u_ v_) ∧ Rl M' ∧ BlOk M' 4 ∧ (∀ c j : Nat, 230 ≤ c → c ≤ 257 → j < zln c → M' c j = M (229 + 56) (900 * 4 + zof c + j)) ∧ (Gm M') ∧ (On M') ∧ (M' (229 + 1) 7 ≤ 9999)
set_option maxHeartbeats 4000000 in
set_option maxRecDepth 100000 in
theorem ctX10_laysBack (Γ : Gam) (M : zM)  (rl : Rl M) (bk : BlOk M 4) : CtV Γ yX10_laysBack cX10_laysBack 1 none 2 44 [aR Γ 229] M (qctX10_laysBack M) := by
  refine met_v (by decide) (Nat.le_of_ble_eq_true rfl) (fun x hx hr => ?_)
  show G Γ x 1 (QV Γ x (qctX10_laysBack M)) M 0 [(0, aR Γ 229)] []
  refine g_aload_n (n := 1) hx 0 (dq tX10_laysBack 0 rfl) rfl rfl ?_
  refine g_iconst (n := 2) hx (dq tX10_laysBack 1 rfl) rfl ?_
  refine g_iconst (n := 3) hx (dq tX10_laysBack 2 rfl) rfl ?_
  refine g_callVv (n := 6) (As := [vI 4, vI 1]) (rest := []) hx (ctX10_carries1 Γ M 4 (by decide) (by decide) 1 (by decide) (by decide) bk.1) mlX10_651 (obX10 (by decide)) (dq tX10_laysBack 3 rfl) rfl (Nat.le_of_ble_eq_true rfl) (Nat.le_of_ble_eq_true rfl) (Nat.le_of_ble_eq_true rfl) rfl (fun M_2 p_4 => ?_)
  obtain ⟨f_5, h_6⟩ := p_4
  have g_7 : Rl M_2 := BlOk.rl bk rl h_6 (fun c j hcj => f_5 c j (by omega))
  have g_8 : BlOk M_2 4 := BlOk.frame bk (fun c j hcj => f_5 c j (by omega))
  exact g_vret hx hr (dq tX10_laysBack 4 rfl) ⟨(fun u_ v_ huv_ => (f_5 u_ v_ (by omega))), g_7, g_8, h_6, (BlOk.gm bk h_6), (BlOk.on bk h_6), (BlOk.dy bk h_6)⟩

abbrev qctX10_day (M : zM)  (M' : zM) : Prop := (∀ u_ v_, (u_ ≠ 229 ∨ v_ ≠ 61) ∧ (u_ ≠ 229 ∨ v_ ≠ 62) ∧ (u_ ≠ 229 ∨ v_ ≠ 63) ∧ (u_ ≠ 229 ∨ v_ ≠ 64) ∧ (u_ ≠ 229 ∨ v_ ≠ 65) ∧ (u_ ≠ 229 ∨ v_ ≠ 66) ∧ (u_ ≠ 229 ∨ v_ ≠ 67) ∧ (u_ ≠ 229 + 1 ∨ v_ ≠ 7) ∧ (u_ ≠ 229 + 1 ∨ v_ ≠ 9) ∧ (u_ ≠ 229 + 1 ∨ v_ ≠ 13) ∧ (u_ ≠ 229 + 1 ∨ v_ ≠ 14) ∧ u_ ≠ 229 + 7 ∧ u_ ≠ 229 + 8 ∧ u_ ≠ 229 + 12 ∧ u_ ≠ 229 + 13 ∧ u_ ≠ 229 + 14 ∧ u_ ≠ 229 + 15 ∧ u_ ≠ 229 + 18 ∧ u_ ≠ 229 + 28 ∧ u_ ≠ 229 + 50 → M' u_ v_ = M u_ v_) ∧ Gm M' ∧ Rl M' ∧ (M' (229 + 1) 7 = M (229 + 1) 7 + 1)
set_option maxHeartbeats 4000000 in
set_option maxRecDepth 100000 in
theorem ctX10_day (Γ : Gam) (M : zM)  (pre0 : M (229 + 1) 7 ≤ 10099) (gm : Gm M) (rl : Rl M) : CtV Γ yX10_day cX10_day 2 none 11 256 [aR Γ 229] M (qctX10_day M) := by
  refine met_v (by decide) (Nat.le_of_ble_eq_true rfl) (fun x hx hr => ?_)
  show G Γ x 2 (QV Γ x (qctX10_day M)) M 0 [(0, aR Γ 229)] []
  refine g_aload_n (n := 1) hx 0 (dq tX10_day 0 rfl) rfl rfl ?_
  refine g_callVv (n := 4) (As := []) (rest := []) hx (ctX10_goesAll Γ M gm rl) mlX10_565 (obX10 (by decide)) (dq tX10_day 1 rfl) rfl (Nat.le_of_ble_eq_true rfl) (Nat.le_of_ble_eq_true rfl) (Nat.le_of_ble_eq_true rfl) rfl (fun M_2 p_4 => ?_)
  obtain ⟨f_5, g_6, g_7⟩ := p_4
  refine g_aload_n (n := 5) hx 0 (dq tX10_day 2 rfl) rfl rfl ?_
  refine g_iconst (n := 6) hx (dq tX10_day 3 rfl) rfl ?_
  have e_8 : M_2 (229 + 1) 1 = M (229 + 1) 1 := (f_5 (229 + 1) 1 (by omega))
  have e_9 : M_2 (229 + 1) 3 = M (229 + 1) 3 := (f_5 (229 + 1) 3 (by omega))
  have e_10 : M_2 (229 + 1) 7 = M (229 + 1) 7 := (f_5 (229 + 1) 7 (by omega))
  refine g_putI (n := 9) hx plX10_559 (sX10_67 (by decide)) (dq tX10_day 4 rfl) rfl (by omega) (by omega) (fun M_11 m_12e m_12 => ?_)
  have g_13 : Gm M_11 := Gm.frame g_6 (fun c j hcj => m_12 c j (by omega))
  have g_14 : Rl M_11 := Rl.frame g_7 (fun c j hcj => m_12 c j (by omega))
  refine g_iconst (n := 10) hx (dq tX10_day 5 rfl) rfl ?_
  refine g_istore_n (n := 11) (lv' := [(1, vI 0), (0, aR Γ 229)]) hx (dq tX10_day 6 rfl) (by decide) rfl rfl ?_
  have L_17 : ∀ (n_ : Nat) (i_15 : Int) (M_16 : zM), (0 ≤ i_15) → (i_15 ≤ 6) → (∀ u_ v_, (u_ ≠ 229 ∨ v_ ≠ 61) ∧ (u_ ≠ 229 ∨ v_ ≠ 62) ∧ (u_ ≠ 229 ∨ v_ ≠ 63) ∧ (u_ ≠ 229 ∨ v_ ≠ 64) ∧ (u_ ≠ 229 ∨ v_ ≠ 65) ∧ (u_ ≠ 229 ∨ v_ ≠ 66) ∧ (u_ ≠ 229 ∨ v_ ≠ 67) ∧ (u_ ≠ 229 + 1 ∨ v_ ≠ 9) ∧ (u_ ≠ 229 + 1 ∨ v_ ≠ 13) ∧ u_ ≠ 229 + 7 ∧ u_ ≠ 229 + 8 ∧ u_ ≠ 229 + 12 ∧ u_ ≠ 229 + 13 ∧ u_ ≠ 229 + 14 ∧ u_ ≠ 229 + 15 ∧ u_ ≠ 229 + 18 → M_16 u_ v_ = M_11 u_ v_) → (Gm M_16) → (Rl M_16) → ((6 - i_15).toNat = n_) → G Γ x 2 (QV Γ x (qctX10_day M)) M_16 11 [(1, vI i_15), (0, aR Γ 229)] [] := by
    intro n_
    induction n_ using Nat.strongRecOn with
    | _ n_ ih_18 =>
      intro i_15 M_16 h_23 h_24 f_19 g_20 g_21 hm_22
      refine g_iload_n (n := 12) hx 0 (dq tX10_day 7 rfl) rfl rfl ?_
      refine g_aload_n (n := 13) hx 1 (dq tX10_day 8 rfl) rfl rfl ?_
      refine g_getR (n := 16) hx glX10_9 (sX10_1 (by decide)) (dq tX10_day 9 rfl) rfl ?_
      refine g_iconst (n := 17) hx (dq tX10_day 10 rfl) rfl ?_
      refine g_ialdX (n := 18) (q := 1) hx (aX10_1 (b := 229) (by decide)) (dq tX10_day 11 rfl) rfl (by decide) (by decide) (by decide) rfl (fun h_25l h_25u => ?_)
      have h_25l : 0 ≤ M_16 (229 + 1) 1 := h_25l
      have h_25u : M_16 (229 + 1) 1 ≤ 6 := h_25u
      have e_26 : M_16 (229 + 1) 1 = M_2 (229 + 1) 1 := ((f_19 (229 + 1) 1 (by omega))).trans (m_12 (229 + 1) 1 (by omega))
      refine g_icmp_ge (n := 21) (t := 32) hx (dq tX10_day 12 rfl) (by decide) rfl ⟨by omega, by omega⟩ (zrI h_25l h_25u (by decide) (by decide)) (fun c_27 => ?_) (fun c_27 => ?_)
      · refine g_aload_n (n := 33) hx 1 (dq tX10_day 18 rfl) rfl rfl ?_
        refine g_getR (n := 36) hx glX10_9 (sX10_1 (by decide)) (dq tX10_day 19 rfl) rfl ?_
        refine g_bipush (n := 38) hx (dq tX10_day 20 rfl) rfl (by decide) ?_
        refine g_dup2 (n := 39) hx (dq tX10_day 21 rfl) rfl rfl rfl ?_
        refine g_ialdX (n := 40) (q := 7) hx (aX10_1 (b := 229) (by decide)) (dq tX10_day 22 rfl) rfl (by decide) (by decide) (by decide) rfl (fun h_28l h_28u => ?_)
        have h_28l : 0 ≤ M_16 (229 + 1) 7 := h_28l
        have h_28u : M_16 (229 + 1) 7 ≤ 10100 := h_28u
        have e_29 : M_16 (229 + 1) 7 = M_2 (229 + 1) 7 := ((f_19 (229 + 1) 7 (by omega))).trans (m_12 (229 + 1) 7 (by omega))
        refine g_iconst (n := 41) hx (dq tX10_day 23 rfl) rfl ?_
        refine g_iadd (n := 42) hx (dq tX10_day 24 rfl) rfl ?_
        have e_30 : M_16 (229 + 1) 3 = M_2 (229 + 1) 3 := ((f_19 (229 + 1) 3 (by omega))).trans (m_12 (229 + 1) 3 (by omega))
        refine g_iastX (n := 43) (q := 7) hx (aX10_1 (b := 229) (by decide)) (dq tX10_day 25 rfl) rfl (by decide) (by decide) (by decide) rfl (show 0 ≤ (M_16 (229 + 1) 7) + 1 by omega) (show (M_16 (229 + 1) 7) + 1 ≤ 10100 by omega) (fun M_31 m_32e m_32 => ?_)
        have g_33 : Gm M_31 := Gm.frame g_20 (fun c j hcj => m_32 c j (by omega))
        have g_34 : Rl M_31 := Rl.frame g_21 (fun c j hcj => m_32 c j (by omega))
        refine g_aload_n (n := 44) hx 1 (dq tX10_day 26 rfl) rfl rfl ?_
        have e_35 : M_31 (229 + 1) 1 = M_16 (229 + 1) 1 := (m_32 (229 + 1) 1 (by omega))
        have e_36 : M_31 (229 + 1) 3 = M_16 (229 + 1) 3 := (m_32 (229 + 1) 3 (by omega))
        refine g_callVv (n := 47) (As := []) (rest := []) hx (ctX10_keepsPlaces Γ M_31 ) mlX10_571 (obX10 (by decide)) (dq tX10_day 27 rfl) rfl (Nat.le_of_ble_eq_true rfl) (Nat.le_of_ble_eq_true rfl) (Nat.le_of_ble_eq_true rfl) rfl (fun M_38 p_40 => ?_)
        have f_41 := p_40
        have g_42 : Gm M_38 := Gm.frame g_33 (fun c j hcj => f_41 c j (by omega))
        have g_43 : Rl M_38 := Rl.frame g_34 (fun c j hcj => f_41 c j (by omega))
        have e_44 : M_38 (229 + 1) 1 = M_31 (229 + 1) 1 := (f_41 (229 + 1) 1 (by omega))
        have e_45 : M_38 (229 + 1) 3 = M_31 (229 + 1) 3 := (f_41 (229 + 1) 3 (by omega))
        have e_46 : M_38 (229 + 1) 7 = M_31 (229 + 1) 7 := (f_41 (229 + 1) 7 (by omega))
        exact g_vret hx hr (dq tX10_day 28 rfl) ⟨(fun u_ v_ huv_ => (((((f_41 u_ v_ (by omega)).trans (m_32 u_ v_ (by omega))).trans (f_19 u_ v_ (by omega))).trans (m_12 u_ v_ (by omega))).trans (f_5 u_ v_ (by omega)))), g_42, g_43, (by omega)⟩
      · refine g_aload_n (n := 22) hx 1 (dq tX10_day 13 rfl) rfl rfl ?_
        refine g_iload_n (n := 23) hx 0 (dq tX10_day 14 rfl) rfl rfl ?_
        have e_47 : M_16 (229 + 1) 3 = M_2 (229 + 1) 3 := ((f_19 (229 + 1) 3 (by omega))).trans (m_12 (229 + 1) 3 (by omega))
        have e_48 : M_16 (229 + 1) 7 = M_2 (229 + 1) 7 := ((f_19 (229 + 1) 7 (by omega))).trans (m_12 (229 + 1) 7 (by omega))
        refine g_callVv (n := 26) (As := [vI i_15]) (rest := []) hx (ctX10_worksVillage Γ M_16 i_15 (by omega) (by omega) (by omega) g_20 g_21) mlX10_568 (obX10 (by decide)) (dq tX10_day 15 rfl) rfl (Nat.le_of_ble_eq_true rfl) (Nat.le_of_ble_eq_true rfl) (Nat.le_of_ble_eq_true rfl) rfl (fun M_50 p_52 => ?_)
        obtain ⟨f_53, g_54, g_55⟩ := p_52
        refine g_iinc (n := 29) (lv' := [(1, vI (i_15 + 1)), (0, aR Γ 229)]) hx 0 (dq tX10_day 16 rfl) rfl (by decide) rfl rfl ?_
        refine g_goto (n := 11) hx (dq tX10_day 17 rfl) (by decide) ?_
        have e_56 : M_50 (229 + 1) 1 = M_16 (229 + 1) 1 := (f_53 (229 + 1) 1 (by omega))
        have e_57 : M_50 (229 + 1) 3 = M_16 (229 + 1) 3 := (f_53 (229 + 1) 3 (by omega))
        have e_58 : M_50 (229 + 1) 7 = M_16 (229 + 1) 7 := (f_53 (229 + 1) 7 (by omega))
        exact ih_18 _ (by omega) (i_15 + 1) M_50 (by omega) (by omega) (fun u_ v_ huv_ => ((f_53 u_ v_ (by omega)).trans (f_19 u_ v_ (by omega)))) g_54 g_55 rfl
  have e_59 : M_11 (229 + 1) 1 = M_2 (229 + 1) 1 := (m_12 (229 + 1) 1 (by omega))
  have e_60 : M_11 (229 + 1) 3 = M_2 (229 + 1) 3 := (m_12 (229 + 1) 3 (by omega))
  have e_61 : M_11 (229 + 1) 7 = M_2 (229 + 1) 7 := (m_12 (229 + 1) 7 (by omega))
  exact L_17 _ 0 M_11 (by omega) (by omega) (fun _ _ _ => rfl) g_13 g_14 rfl

abbrev qctX10_wouldBe (M : zM) (n : Int) (M' : zM) : Prop := (∀ u_ v_, (u_ ≠ 229 ∨ v_ < 61 ∨ 68 ≤ v_) ∧ (u_ ≠ 229 ∨ v_ < 78 ∨ 80 ≤ v_) ∧ (u_ < 229 + 1 ∨ 229 + 29 ≤ u_) ∧ (u_ < 229 + 46 ∨ 229 + 51 ≤ u_) → M' u_ v_ = M u_ v_) ∧ Gm M' ∧ Rl M' ∧ BlOk M' 4 ∧ (∀ c j : Nat, 230 ≤ c → c ≤ 257 → j < zln c → M' c j = M (229 + 56) (900 * 4 + zof c + j)) ∧ (Gm M') ∧ (On M') ∧ (M' (229 + 1) 7 ≤ 9999)
set_option maxHeartbeats 4000000 in
set_option maxRecDepth 100000 in
theorem ctX10_wouldBe (Γ : Gam) (M : zM) (n : Int) (hnl : 0 ≤ n) (hnu : n ≤ 60) (pre0 : M (229 + 1) 7 ≤ 9999) (gm : Gm M) (rl : Rl M) (bk : BlOk M 4) : CtV Γ yX10_wouldBe cX10_wouldBe 3 none 12 277 [aR Γ 229, vI n] M (qctX10_wouldBe M n) := by
  refine met_v (by decide) (Nat.le_of_ble_eq_true rfl) (fun x hx hr => ?_)
  show G Γ x 3 (QV Γ x (qctX10_wouldBe M n)) M 0 [(0, aR Γ 229), (1, vI n)] []
  refine g_aload_n (n := 1) hx 0 (dq tX10_wouldBe 0 rfl) rfl rfl ?_
  refine g_callVv (n := 4) (As := []) (rest := []) hx (ctX10_forgetsCounts Γ M ) mlX10_578 (obX10 (by decide)) (dq tX10_wouldBe 1 rfl) rfl (Nat.le_of_ble_eq_true rfl) (Nat.le_of_ble_eq_true rfl) (Nat.le_of_ble_eq_true rfl) rfl (fun M_2 p_4 => ?_)
  have f_5 := p_4
  have g_6 : Gm M_2 := Gm.frame gm (fun c j hcj => f_5 c j (by omega))
  have g_7 : Rl M_2 := Rl.frame rl (fun c j hcj => f_5 c j (by omega))
  have g_8 : BlOk M_2 4 := BlOk.frame bk (fun c j hcj => f_5 c j (by omega))
  refine g_iconst (n := 5) hx (dq tX10_wouldBe 2 rfl) rfl ?_
  refine g_istore_n (n := 6) (lv' := [(2, vI 0), (0, aR Γ 229), (1, vI n)]) hx (dq tX10_wouldBe 3 rfl) (by decide) rfl rfl ?_
  have L_11 : ∀ (n_ : Nat) (i_9 : Int) (M_10 : zM), (0 ≤ i_9) → (i_9 ≤ 60) → (∀ u_ v_, (u_ ≠ 229 ∨ v_ ≠ 61) ∧ (u_ ≠ 229 ∨ v_ ≠ 62) ∧ (u_ ≠ 229 ∨ v_ ≠ 63) ∧ (u_ ≠ 229 ∨ v_ ≠ 64) ∧ (u_ ≠ 229 ∨ v_ ≠ 65) ∧ (u_ ≠ 229 ∨ v_ ≠ 66) ∧ (u_ ≠ 229 ∨ v_ ≠ 67) ∧ (u_ ≠ 229 + 1 ∨ v_ ≠ 7) ∧ (u_ ≠ 229 + 1 ∨ v_ ≠ 9) ∧ (u_ ≠ 229 + 1 ∨ v_ ≠ 13) ∧ (u_ ≠ 229 + 1 ∨ v_ ≠ 14) ∧ u_ ≠ 229 + 7 ∧ u_ ≠ 229 + 8 ∧ u_ ≠ 229 + 12 ∧ u_ ≠ 229 + 13 ∧ u_ ≠ 229 + 14 ∧ u_ ≠ 229 + 15 ∧ u_ ≠ 229 + 18 ∧ u_ ≠ 229 + 28 ∧ u_ ≠ 229 + 50 → M_10 u_ v_ = M_2 u_ v_) → (Gm M_10) → (Rl M_10) → (BlOk M_10 4) → (M_10 (229 + 1) 7 = M (229 + 1) 7 + i_9) → ((60 - i_9).toNat = n_) → G Γ x 3 (QV Γ x (qctX10_wouldBe M n)) M_10 6 [(2, vI i_9), (0, aR Γ 229), (1, vI n)] [] := by
    intro n_
    induction n_ using Nat.strongRecOn with
    | _ n_ ih_12 =>
      intro i_9 M_10 h_19 h_20 f_13 g_14 g_15 g_16 h_18 hm_17
      refine g_iload_n (n := 7) hx 0 (dq tX10_wouldBe 4 rfl) rfl rfl ?_
      refine g_iload_n (n := 8) hx 2 (dq tX10_wouldBe 5 rfl) rfl rfl ?_
      refine g_icmp_ge (n := 11) (t := 21) hx (dq tX10_wouldBe 6 rfl) (by decide) rfl ⟨by omega, by omega⟩ (zrI hnl hnu (by decide) (by decide)) (fun c_21 => ?_) (fun c_21 => ?_)
      · refine g_aload_n (n := 22) hx 1 (dq tX10_wouldBe 11 rfl) rfl rfl ?_
        have e_22 : M_10 (229 + 1) 1 = M (229 + 1) 1 := ((f_13 (229 + 1) 1 (by omega))).trans (f_5 (229 + 1) 1 (by omega))
        have e_23 : M_10 (229 + 1) 3 = M (229 + 1) 3 := ((f_13 (229 + 1) 3 (by omega))).trans (f_5 (229 + 1) 3 (by omega))
        refine g_callVv (n := 25) (As := []) (rest := []) hx (ctX10_laysBack Γ M_10 g_15 g_16) mlX10_520 (obX10 (by decide)) (dq tX10_wouldBe 12 rfl) rfl (Nat.le_of_ble_eq_true rfl) (Nat.le_of_ble_eq_true rfl) (Nat.le_of_ble_eq_true rfl) rfl (fun M_25 p_27 => ?_)
        obtain ⟨f_28, g_29, g_30, h_31, h_32, h_33, h_34⟩ := p_27
        exact g_vret hx hr (dq tX10_wouldBe 13 rfl) ⟨(fun u_ v_ huv_ => (((f_28 u_ v_ (by omega)).trans (f_13 u_ v_ (by omega))).trans (f_5 u_ v_ (by omega)))), h_32, g_29, g_30, (fun c j h1 h2 h3 => (h_31 c j h1 h2 h3).trans (((f_13 (229 + 56) (900 * 4 + zof c + j) (by omega)).trans (f_5 (229 + 56) (900 * 4 + zof c + j) (by omega))))), h_32, h_33, h_34⟩
      · refine g_aload_n (n := 12) hx 1 (dq tX10_wouldBe 7 rfl) rfl rfl ?_
        have e_35 : M_10 (229 + 1) 1 = M (229 + 1) 1 := ((f_13 (229 + 1) 1 (by omega))).trans (f_5 (229 + 1) 1 (by omega))
        have e_36 : M_10 (229 + 1) 3 = M (229 + 1) 3 := ((f_13 (229 + 1) 3 (by omega))).trans (f_5 (229 + 1) 3 (by omega))
        refine g_callVv (n := 15) (As := []) (rest := []) hx (ctX10_day Γ M_10 (by omega) g_14 g_15) mlX10_576 (obX10 (by decide)) (dq tX10_wouldBe 8 rfl) rfl (Nat.le_of_ble_eq_true rfl) (Nat.le_of_ble_eq_true rfl) (Nat.le_of_ble_eq_true rfl) rfl (fun M_38 p_40 => ?_)
        obtain ⟨f_41, g_42, g_43, h_44⟩ := p_40
        have g_45 : BlOk M_38 4 := BlOk.frame g_16 (fun c j hcj => f_41 c j (by omega))
        refine g_iinc (n := 18) (lv' := [(2, vI (i_9 + 1)), (0, aR Γ 229), (1, vI n)]) hx 0 (dq tX10_wouldBe 9 rfl) rfl (by decide) rfl rfl ?_
        refine g_goto (n := 6) hx (dq tX10_wouldBe 10 rfl) (by decide) ?_
        have e_46 : M_38 (229 + 1) 1 = M_10 (229 + 1) 1 := (f_41 (229 + 1) 1 (by omega))
        have e_47 : M_38 (229 + 1) 3 = M_10 (229 + 1) 3 := (f_41 (229 + 1) 3 (by omega))
        exact ih_12 _ (by omega) (i_9 + 1) M_38 (by omega) (by omega) (fun u_ v_ huv_ => ((f_41 u_ v_ (by omega)).trans (f_13 u_ v_ (by omega)))) g_42 g_43 g_45 (by first | assumption | omega) rfl
  have e_48 : M_2 (229 + 1) 1 = M (229 + 1) 1 := (f_5 (229 + 1) 1 (by omega))
  have e_49 : M_2 (229 + 1) 3 = M (229 + 1) 3 := (f_5 (229 + 1) 3 (by omega))
  have e_50 : M_2 (229 + 1) 7 = M (229 + 1) 7 := (f_5 (229 + 1) 7 (by omega))
  exact L_11 _ 0 M_2 (by omega) (by omega) (fun _ _ _ => rfl) g_6 g_7 g_8 (by first | assumption | omega) rfl

abbrev qctX10_floats (M : zM) (n : Int) (what : Int) (z : Int) (M' : zM) : Prop := (∀ u_ v_, (u_ ≠ 229 ∨ v_ < 61 ∨ 80 ≤ v_) ∧ (u_ < 229 + 1 ∨ 229 + 29 ≤ u_) ∧ (u_ < 229 + 46 ∨ 229 + 57 ≤ u_) → M' u_ v_ = M u_ v_) ∧ Gm M' ∧ Rl M' ∧ On M' ∧ (Sm M M') ∧ (∀ j : Nat, j < 3600 → M' (229 + 56) j = M (229 + 56) j)
set_option maxHeartbeats 4000000 in
set_option maxRecDepth 100000 in
theorem ctX10_floats (Γ : Gam) (M : zM) (n : Int) (hnl : (-2147483648) ≤ n) (hnu : n ≤ 2147483647) (what : Int) (hwhatl : (-2147483648) ≤ what) (hwhatu : what ≤ 2147483647) (pre0 : M (229 + 1) 7 ≤ 9999) (gm : Gm M) (rl : Rl M) (on : On M) : CtI Γ yX10_floats cX10_floats 3 (some .int) 13 299 [aR Γ 229, vI n, vI what] M (qctX10_floats M n what) := by
  refine met_i (by decide) (Nat.le_of_ble_eq_true rfl) (fun x hx hr => ?_)
  show G Γ x 3 (QI Γ x (qctX10_floats M n what)) M 0 [(0, aR Γ 229), (1, vI n), (2, vI what)] []
  refine g_aload_n (n := 1) hx 0 (dq tX10_floats 0 rfl) rfl rfl ?_
  refine g_callVi (n := 4) (As := []) (rest := []) hx (ctX10_isRiver Γ M ) mlX10_413 (obX10 (by decide)) (dq tX10_floats 1 rfl) rfl (Nat.le_of_ble_eq_true rfl) (Nat.le_of_ble_eq_true rfl) (Nat.le_of_ble_eq_true rfl) rfl (fun z_1 M_2 h_3 p_4 => ?_)
  obtain ⟨rfl, b_6⟩ := p_4
  refine g_if_eq (n := 7) (t := 31) hx (dq tX10_floats 2 rfl) (by decide) rfl h_3 (fun c_8 => ?_) (fun c_8 => ?_)
  · clear b_6
    refine g_iconst (n := 32) hx (dq tX10_floats 15 rfl) rfl ?_
    exact g_iret hx hr (dq tX10_floats 16 rfl) ⟨by decide, by decide⟩ ⟨(fun _ _ _ => rfl), gm, rl, on, (fun _ _ _ _ _ => rfl), (fun _ _ => rfl)⟩
  · have b_6 := b_6.resolve_left c_8
    obtain ⟨-, h_7⟩ := b_6
    refine g_iload_n (n := 8) hx 1 (dq tX10_floats 3 rfl) rfl rfl ?_
    refine g_i2l (n := 9) hx (dq tX10_floats 4 rfl) rfl (zrI hnl hnu (by decide) (by decide)) ?_
    refine g_lconst (n := 10) (z := 0) hx (dq tX10_floats 5 rfl) rfl (by decide) ?_
    refine g_ldc2 (n := 13) (z := 60) hx wd_1805 (by decide) (dq tX10_floats 6 rfl) rfl ?_
    refine g_callSi (n := 16) (As := [vL n, vL 0, vL 60]) (rest := []) hx (ctX10_in Γ M n (by omega) (by omega) 0 (by omega) (by omega) 60 (by omega) (by omega)) mlX10_191 (dq tX10_floats 7 rfl) rfl (Nat.le_of_ble_eq_true rfl) (Nat.le_of_ble_eq_true rfl) (Nat.le_of_ble_eq_true rfl) rfl (fun z_9 M_10 h_11 p_12 => ?_)
    obtain ⟨rfl, b_14, h_15⟩ := p_12
    refine g_if_eq (n := 19) (t := 31) hx (dq tX10_floats 8 rfl) (by decide) rfl h_11 (fun c_18 => ?_) (fun c_18 => ?_)
    · clear b_14
      refine g_iconst (n := 32) hx (dq tX10_floats 15 rfl) rfl ?_
      exact g_iret hx hr (dq tX10_floats 16 rfl) ⟨by decide, by decide⟩ ⟨(fun _ _ _ => rfl), gm, rl, on, (fun _ _ _ _ _ => rfl), (fun _ _ => rfl)⟩
    · have b_14 := b_14.resolve_left c_18
      obtain ⟨-, h_16, h_17⟩ := b_14
      refine g_iload_n (n := 20) hx 2 (dq tX10_floats 9 rfl) rfl rfl ?_
      refine g_i2l (n := 21) hx (dq tX10_floats 10 rfl) rfl (zrI hwhatl hwhatu (by decide) (by decide)) ?_
      refine g_lconst (n := 22) (z := 0) hx (dq tX10_floats 11 rfl) rfl (by decide) ?_
      refine g_ldc2 (n := 25) (z := 5) hx wd_1850 (by decide) (dq tX10_floats 12 rfl) rfl ?_
      refine g_callSi (n := 28) (As := [vL what, vL 0, vL 5]) (rest := []) hx (ctX10_in Γ M what (by omega) (by omega) 0 (by omega) (by omega) 5 (by omega) (by omega)) mlX10_191 (dq tX10_floats 13 rfl) rfl (Nat.le_of_ble_eq_true rfl) (Nat.le_of_ble_eq_true rfl) (Nat.le_of_ble_eq_true rfl) rfl (fun z_19 M_20 h_21 p_22 => ?_)
      obtain ⟨rfl, b_24, h_25⟩ := p_22
      refine g_if_ne (n := 31) (t := 33) hx (dq tX10_floats 14 rfl) (by decide) rfl h_21 (fun c_28 => ?_) (fun c_28 => ?_)
      · have b_24 := b_24.resolve_left c_28
        obtain ⟨-, h_26, h_27⟩ := b_24
        refine g_aload_n (n := 34) hx 0 (dq tX10_floats 17 rfl) rfl rfl ?_
        refine g_callVv (n := 37) (As := []) (rest := []) hx (ctX10_keeps Γ M (by omega) gm rl on) mlX10_517 (obX10 (by decide)) (dq tX10_floats 18 rfl) rfl (Nat.le_of_ble_eq_true rfl) (Nat.le_of_ble_eq_true rfl) (Nat.le_of_ble_eq_true rfl) rfl (fun M_30 p_32 => ?_)
        obtain ⟨f_33, g_34, g_35, g_36, h_37, h_38, h_39⟩ := p_32
        refine g_aload_n (n := 38) hx 0 (dq tX10_floats 19 rfl) rfl rfl ?_
        refine g_iload_n (n := 39) hx 1 (dq tX10_floats 20 rfl) rfl rfl ?_
        have e_40 : M_30 (229 + 1) 1 = M (229 + 1) 1 := (f_33 (229 + 1) 1 (by omega))
        have e_41 : M_30 (229 + 1) 3 = M (229 + 1) 3 := (f_33 (229 + 1) 3 (by omega))
        have e_42 : M_30 (229 + 1) 7 = M (229 + 1) 7 := (f_33 (229 + 1) 7 (by omega))
        refine g_callVv (n := 42) (As := [vI n]) (rest := []) hx (ctX10_wouldBe Γ M_30 n (by omega) (by omega) (by omega) g_34 g_35 h_37) mlX10_583 (obX10 (by decide)) (dq tX10_floats 21 rfl) rfl (Nat.le_of_ble_eq_true rfl) (Nat.le_of_ble_eq_true rfl) (Nat.le_of_ble_eq_true rfl) rfl (fun M_44 p_46 => ?_)
        obtain ⟨f_47, g_48, g_49, g_50, h_51, h_52, h_53, h_54⟩ := p_46
        refine g_aload_n (n := 43) hx 0 (dq tX10_floats 22 rfl) rfl rfl ?_
        refine g_iload_n (n := 44) hx 2 (dq tX10_floats 23 rfl) rfl rfl ?_
        refine g_callVi (n := 47) (As := [vI what]) (rest := []) hx (ctX10_counted1 Γ M_44 what (by omega) (by omega)) mlX10_586 (obX10 (by decide)) (dq tX10_floats 24 rfl) rfl (Nat.le_of_ble_eq_true rfl) (Nat.le_of_ble_eq_true rfl) (Nat.le_of_ble_eq_true rfl) rfl (fun z_55 M_56 h_57 p_58 => ?_)
        obtain rfl := p_58
        exact g_iret hx hr (dq tX10_floats 25 rfl) h_57 ⟨(fun u_ v_ huv_ => ((f_47 u_ v_ (by omega)).trans (f_33 u_ v_ (by omega)))), h_52, g_49, h_53, (fun c j h1 h2 h3 => (h_51 c j h1 h2 h3).trans ((rfl).trans (h_38 c j h1 h2 h3))), (fun j hj => ((f_47 (229 + 56) j (by omega))).trans ((h_39 j hj).trans (rfl)))⟩
      · clear b_24
        refine g_iconst (n := 32) hx (dq tX10_floats 15 rfl) rfl ?_
        exact g_iret hx hr (dq tX10_floats 16 rfl) ⟨by decide, by decide⟩ ⟨(fun _ _ _ => rfl), gm, rl, on, (fun _ _ _ _ _ => rfl), (fun _ _ => rfl)⟩
