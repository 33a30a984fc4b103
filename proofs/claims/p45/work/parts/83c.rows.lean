abbrev qctX1_take2 (M : zM) (i : Nat) (b : Nat) (M' : zM) : Prop := (∀ u_ v_, (u_ < i ∨ i + 32 ≤ u_) → M' u_ v_ = M u_ v_) ∧ Gd M' 37 (b + 1) ∧ (Gd M' (i + 1) (i + 9)) ∧ (M' i 0 = 1) ∧ (M' (i + 19) 0 = M (b + 11) 0) ∧ (Cb M M' 37 (b + 1) (b + 11) (i + 1) (i + 9) (i + 19))
set_option maxHeartbeats 4000000 in
set_option maxRecDepth 100000 in
theorem ctX1_take2 (Γ : Gam) (M : zM) (i : Nat) (hi : isX1 i) (b : Nat) (hb : isX8 b) (gd0 : Gd M 37 (b + 1)) : CtV Γ yX1_take cX1_take 2 none 3 102 [aR Γ i, aR Γ b] M (qctX1_take2 M i b) := by
  refine met_v (by decide) (Nat.le_of_ble_eq_true rfl) (fun x hx hr => ?_)
  show G Γ x 2 (QV Γ x (qctX1_take2 M i b)) M 0 [(0, aR Γ i), (1, aR Γ b)] []
  refine g_iv (fun hI0 => ?_)
  have hv1 : M (37) 1 ≤ 6 := (ivI hI0 (sX2_1 (by decide))).2
  have hv3 : M (37) 3 ≤ 12 := (ivI hI0 (sX2_3 (by decide))).2
  refine g_aload_n (n := 1) hx 0 (dq tX1_take 0 rfl) rfl rfl ?_
  refine g_iconst (n := 2) hx (dq tX1_take 1 rfl) rfl ?_
  refine g_putZ (n := 5) hx plX1_30 (sX1_0 hi) (dq tX1_take 2 rfl) rfl (by omega) (by omega) (by omega) (fun M_1 m_2e m_2 => ?_)
  have g_3 : Gd M_1 37 (b + 1) := Gd.frame gd0 (fun c j hcj => m_2 c j (by omega))
  refine g_aload_n (n := 6) hx 0 (dq tX1_take 3 rfl) rfl rfl ?_
  refine g_getR (n := 9) hx glX1_10 (sX1_1 hi) (dq tX1_take 4 rfl) rfl ?_
  refine g_aload_n (n := 10) hx 1 (dq tX1_take 5 rfl) rfl rfl ?_
  refine g_getR (n := 13) hx glX1_34 (sX8_0 hb) (dq tX1_take 6 rfl) rfl ?_
  have e_4 : M_1 37 1 = M 37 1 := (m_2 37 1 (by omega))
  have e_5 : M_1 37 3 = M 37 3 := (m_2 37 3 (by omega))
  refine g_callVv (n := 16) (As := [aR Γ 37]) (rest := []) hx (ctX2_copy Γ M_1 (i + 1) (iX1_1 hi) 37 (by decide) (by omega)) mlX1_37 (obX2 (iX1_1 hi)) (dq tX1_take 7 rfl) rfl (Nat.le_of_ble_eq_true rfl) (Nat.le_of_ble_eq_true rfl) (Nat.le_of_ble_eq_true rfl) rfl (fun M_7 p_9 => ?_)
  obtain ⟨f_10, h_11, h_12, h_13, h_14, h_15, h_16, h_17, h_18, h_19, h_20, h_21, h_22⟩ := p_9
  have g_23 : Gd M_7 37 (b + 1) := Gd.frame g_3 (fun c j hcj => f_10 c j (by omega))
  refine g_aload_n (n := 17) hx 0 (dq tX1_take 8 rfl) rfl rfl ?_
  refine g_getR (n := 20) hx glX1_19 (sX1_2 hi) (dq tX1_take 9 rfl) rfl ?_
  refine g_aload_n (n := 21) hx 1 (dq tX1_take 10 rfl) rfl rfl ?_
  refine g_getR (n := 24) hx glX1_41 (sX8_1 hb) (dq tX1_take 11 rfl) rfl ?_
  have e_24 : M_7 37 1 = M_1 37 1 := (f_10 37 1 (by omega))
  have e_25 : M_7 37 3 = M_1 37 3 := (f_10 37 3 (by omega))
  refine g_callVv (n := 27) (As := [aR Γ (b + 1)]) (rest := []) hx (ctX6_copy Γ M_7 (i + 9) (iX1_2 hi) (b + 1) (iX8_1 hb) (by omega)) mlX1_42 (obX6 (iX1_2 hi)) (dq tX1_take 12 rfl) rfl (Nat.le_of_ble_eq_true rfl) (Nat.le_of_ble_eq_true rfl) (Nat.le_of_ble_eq_true rfl) rfl (fun M_27 p_29 => ?_)
  obtain ⟨f_30, h_31, h_32, h_33, h_34, h_35, h_36, h_37, h_38, h_39, h_40, h_41, h_42, h_43, h_44, h_45⟩ := p_29
  have g_46 : Gd M_27 37 (b + 1) := Gd.frame g_23 (fun c j hcj => f_30 c j (by omega))
  refine g_aload_n (n := 28) hx 0 (dq tX1_take 13 rfl) rfl rfl ?_
  refine g_getR (n := 31) hx glX1_26 (sX1_3 hi) (dq tX1_take 14 rfl) rfl ?_
  refine g_aload_n (n := 32) hx 1 (dq tX1_take 15 rfl) rfl rfl ?_
  refine g_getR (n := 35) hx glX1_45 (sX8_2 hb) (dq tX1_take 16 rfl) rfl ?_
  have e_47 : M_27 37 1 = M_7 37 1 := (f_30 37 1 (by omega))
  have e_48 : M_27 37 3 = M_7 37 3 := (f_30 37 3 (by omega))
  refine g_callVv (n := 38) (As := [aR Γ (b + 11)]) (rest := []) hx (ctX0_copy Γ M_27 (i + 19) (iX1_3 hi) (b + 11) (iX8_2 hb) (by omega)) mlX1_46 (obX0 (iX1_3 hi)) (dq tX1_take 17 rfl) rfl (Nat.le_of_ble_eq_true rfl) (Nat.le_of_ble_eq_true rfl) (Nat.le_of_ble_eq_true rfl) rfl (fun M_50 p_52 => ?_)
  obtain ⟨f_53, h_54, h_55, h_56, h_57, h_58, h_59, h_60, h_61, h_62, h_63, h_64, h_65, h_66, h_67, h_68, h_69, h_70⟩ := p_52
  have g_71 : Gd M_50 37 (b + 1) := Gd.frame g_46 (fun c j hcj => f_53 c j (by omega))
  have e_72 : M_50 37 1 = M_27 37 1 := (f_53 37 1 (by omega))
  have e_73 : M_50 37 3 = M_27 37 3 := (f_53 37 3 (by omega))
  exact g_vret hx hr (dq tX1_take 18 rfl) ⟨(fun u_ v_ huv_ => ((((f_53 u_ v_ (by omega)).trans (f_30 u_ v_ (by omega))).trans (f_10 u_ v_ (by omega))).trans (m_2 u_ v_ (by omega)))), g_71, Gd.copy gd0 hv1 hv3 ((((f_53 (i + 1) 1 (by omega)).trans (f_30 (i + 1) 1 (by omega)))).trans ((h_12).trans ((m_2 37 1 (by omega))))) ((((f_53 (i + 1) 3 (by omega)).trans (f_30 (i + 1) 3 (by omega)))).trans ((h_14).trans ((m_2 37 3 (by omega))))) (((f_53 (i + 9) 5 (by omega))).trans ((h_36).trans (((f_10 (b + 1) 5 (by omega)).trans (m_2 (b + 1) 5 (by omega)))))) (fun j hj => (((f_53 (i + 1 + 1) j (by omega)).trans (f_30 (i + 1 + 1) j (by omega)))).trans ((h_16 j hj).trans ((m_2 (37 + 1) j (by omega))))) (fun j hj => (((f_53 (i + 1 + 4) j (by omega)).trans (f_30 (i + 1 + 4) j (by omega)))).trans ((h_19 j hj).trans ((m_2 (37 + 4) j (by omega))))) (fun j hj => ((f_53 (i + 9 + 3) j (by omega))).trans ((h_39 j hj).trans (((f_10 (b + 1 + 3) j (by omega)).trans (m_2 (b + 1 + 3) j (by omega)))))) (fun j hj => ((f_53 (i + 9 + 7) j (by omega))).trans ((h_43 j hj).trans (((f_10 (b + 1 + 7) j (by omega)).trans (m_2 (b + 1 + 7) j (by omega)))))), (((((f_53 i 0 (by omega)).trans (f_30 i 0 (by omega))).trans (f_10 i 0 (by omega)))).trans m_2e), ((rfl).trans ((h_54).trans ((((f_30 (b + 11) 0 (by omega)).trans (f_10 (b + 11) 0 (by omega))).trans (m_2 (b + 11) 0 (by omega)))))), ⟨((((f_53 (i + 1) 0 (by omega)).trans (f_30 (i + 1) 0 (by omega)))).trans ((h_11).trans ((m_2 37 0 (by omega))))), ((((f_53 (i + 1) 1 (by omega)).trans (f_30 (i + 1) 1 (by omega)))).trans ((h_12).trans ((m_2 37 1 (by omega))))), ((((f_53 (i + 1) 3 (by omega)).trans (f_30 (i + 1) 3 (by omega)))).trans ((h_14).trans ((m_2 37 3 (by omega))))), (((f_53 (i + 9) 0 (by omega))).trans ((h_31).trans (((f_10 (b + 1) 0 (by omega)).trans (m_2 (b + 1) 0 (by omega)))))), (((f_53 (i + 9) 1 (by omega))).trans ((h_32).trans (((f_10 (b + 1) 1 (by omega)).trans (m_2 (b + 1) 1 (by omega)))))), (((f_53 (i + 9) 2 (by omega))).trans ((h_33).trans (((f_10 (b + 1) 2 (by omega)).trans (m_2 (b + 1) 2 (by omega)))))), (((f_53 (i + 9) 3 (by omega))).trans ((h_34).trans (((f_10 (b + 1) 3 (by omega)).trans (m_2 (b + 1) 3 (by omega)))))), ((rfl).trans ((h_57).trans ((((f_30 (b + 11) 6 (by omega)).trans (f_10 (b + 11) 6 (by omega))).trans (m_2 (b + 11) 6 (by omega)))))), (fun j hj => ((f_53 (i + 9 + 1) j (by omega))).trans ((h_37 j hj).trans (((f_10 (b + 1 + 1) j (by omega)).trans (m_2 (b + 1 + 1) j (by omega))))))⟩⟩

abbrev qctX1_give2 (M : zM) (i : Nat) (b : Nat) (M' : zM) : Prop := (∀ u_ v_, (u_ < 37 ∨ 37 + 8 ≤ u_) ∧ (u_ < b + 1 ∨ b + 24 ≤ u_) → M' u_ v_ = M u_ v_) ∧ Gd M' (i + 1) (i + 9) ∧ (Gd M' 37 (b + 1)) ∧ (M' (b + 11) 0 = M (i + 19) 0) ∧ (Cb M M' (i + 1) (i + 9) (i + 19) 37 (b + 1) (b + 11))
set_option maxHeartbeats 4000000 in
set_option maxRecDepth 100000 in
theorem ctX1_give2 (Γ : Gam) (M : zM) (i : Nat) (hi : isX1 i) (b : Nat) (hb : isX8 b) (gd0 : Gd M (i + 1) (i + 9)) : CtV Γ yX1_give cX1_give 2 none 3 102 [aR Γ i, aR Γ b] M (qctX1_give2 M i b) := by
  refine met_v (by decide) (Nat.le_of_ble_eq_true rfl) (fun x hx hr => ?_)
  show G Γ x 2 (QV Γ x (qctX1_give2 M i b)) M 0 [(0, aR Γ i), (1, aR Γ b)] []
  refine g_iv (fun hI0 => ?_)
  have hv1 : M (i + 1) 1 ≤ 6 := (ivI hI0 (sX2_1 (iX1_1 hi))).2
  have hv3 : M (i + 1) 3 ≤ 12 := (ivI hI0 (sX2_3 (iX1_1 hi))).2
  refine g_aload_n (n := 1) hx 1 (dq tX1_give 0 rfl) rfl rfl ?_
  refine g_getR (n := 4) hx glX1_34 (sX8_0 hb) (dq tX1_give 1 rfl) rfl ?_
  refine g_aload_n (n := 5) hx 0 (dq tX1_give 2 rfl) rfl rfl ?_
  refine g_getR (n := 8) hx glX1_10 (sX1_1 hi) (dq tX1_give 3 rfl) rfl ?_
  refine g_callVv (n := 11) (As := [aR Γ (i + 1)]) (rest := []) hx (ctX2_copy Γ M 37 (by decide) (i + 1) (iX1_1 hi) (by omega)) mlX1_37 (obX2 (by decide)) (dq tX1_give 4 rfl) rfl (Nat.le_of_ble_eq_true rfl) (Nat.le_of_ble_eq_true rfl) (Nat.le_of_ble_eq_true rfl) rfl (fun M_2 p_4 => ?_)
  obtain ⟨f_5, h_6, h_7, h_8, h_9, h_10, h_11, h_12, h_13, h_14, h_15, h_16, h_17⟩ := p_4
  have g_18 : Gd M_2 (i + 1) (i + 9) := Gd.frame gd0 (fun c j hcj => f_5 c j (by omega))
  refine g_aload_n (n := 12) hx 1 (dq tX1_give 5 rfl) rfl rfl ?_
  refine g_getR (n := 15) hx glX1_41 (sX8_1 hb) (dq tX1_give 6 rfl) rfl ?_
  refine g_aload_n (n := 16) hx 0 (dq tX1_give 7 rfl) rfl rfl ?_
  refine g_getR (n := 19) hx glX1_19 (sX1_2 hi) (dq tX1_give 8 rfl) rfl ?_
  refine g_callVv (n := 22) (As := [aR Γ (i + 9)]) (rest := []) hx (ctX6_copy Γ M_2 (b + 1) (iX8_1 hb) (i + 9) (iX1_2 hi) (by omega)) mlX1_42 (obX6 (iX8_1 hb)) (dq tX1_give 9 rfl) rfl (Nat.le_of_ble_eq_true rfl) (Nat.le_of_ble_eq_true rfl) (Nat.le_of_ble_eq_true rfl) rfl (fun M_20 p_22 => ?_)
  obtain ⟨f_23, h_24, h_25, h_26, h_27, h_28, h_29, h_30, h_31, h_32, h_33, h_34, h_35, h_36, h_37, h_38⟩ := p_22
  have g_39 : Gd M_20 (i + 1) (i + 9) := Gd.frame g_18 (fun c j hcj => f_23 c j (by omega))
  refine g_aload_n (n := 23) hx 1 (dq tX1_give 10 rfl) rfl rfl ?_
  refine g_getR (n := 26) hx glX1_45 (sX8_2 hb) (dq tX1_give 11 rfl) rfl ?_
  refine g_aload_n (n := 27) hx 0 (dq tX1_give 12 rfl) rfl rfl ?_
  refine g_getR (n := 30) hx glX1_26 (sX1_3 hi) (dq tX1_give 13 rfl) rfl ?_
  refine g_callVv (n := 33) (As := [aR Γ (i + 19)]) (rest := []) hx (ctX0_copy Γ M_20 (b + 11) (iX8_2 hb) (i + 19) (iX1_3 hi) (by omega)) mlX1_46 (obX0 (iX8_2 hb)) (dq tX1_give 14 rfl) rfl (Nat.le_of_ble_eq_true rfl) (Nat.le_of_ble_eq_true rfl) (Nat.le_of_ble_eq_true rfl) rfl (fun M_41 p_43 => ?_)
  obtain ⟨f_44, h_45, h_46, h_47, h_48, h_49, h_50, h_51, h_52, h_53, h_54, h_55, h_56, h_57, h_58, h_59, h_60, h_61⟩ := p_43
  have g_62 : Gd M_41 (i + 1) (i + 9) := Gd.frame g_39 (fun c j hcj => f_44 c j (by omega))
  exact g_vret hx hr (dq tX1_give 15 rfl) ⟨(fun u_ v_ huv_ => (((f_44 u_ v_ (by omega)).trans (f_23 u_ v_ (by omega))).trans (f_5 u_ v_ (by omega)))), g_62, Gd.copy gd0 hv1 hv3 ((((f_44 37 1 (by omega)).trans (f_23 37 1 (by omega)))).trans ((h_7).trans (rfl))) ((((f_44 37 3 (by omega)).trans (f_23 37 3 (by omega)))).trans ((h_9).trans (rfl))) (((f_44 (b + 1) 5 (by omega))).trans ((h_29).trans ((f_5 (i + 9) 5 (by omega))))) (fun j hj => (((f_44 (37 + 1) j (by omega)).trans (f_23 (37 + 1) j (by omega)))).trans ((h_11 j hj).trans (rfl))) (fun j hj => (((f_44 (37 + 4) j (by omega)).trans (f_23 (37 + 4) j (by omega)))).trans ((h_14 j hj).trans (rfl))) (fun j hj => ((f_44 (b + 1 + 3) j (by omega))).trans ((h_32 j hj).trans ((f_5 (i + 9 + 3) j (by omega))))) (fun j hj => ((f_44 (b + 1 + 7) j (by omega))).trans ((h_36 j hj).trans ((f_5 (i + 9 + 7) j (by omega))))), ((rfl).trans ((h_45).trans (((f_23 (i + 19) 0 (by omega)).trans (f_5 (i + 19) 0 (by omega)))))), ⟨((((f_44 37 0 (by omega)).trans (f_23 37 0 (by omega)))).trans ((h_6).trans (rfl))), ((((f_44 37 1 (by omega)).trans (f_23 37 1 (by omega)))).trans ((h_7).trans (rfl))), ((((f_44 37 3 (by omega)).trans (f_23 37 3 (by omega)))).trans ((h_9).trans (rfl))), (((f_44 (b + 1) 0 (by omega))).trans ((h_24).trans ((f_5 (i + 9) 0 (by omega))))), (((f_44 (b + 1) 1 (by omega))).trans ((h_25).trans ((f_5 (i + 9) 1 (by omega))))), (((f_44 (b + 1) 2 (by omega))).trans ((h_26).trans ((f_5 (i + 9) 2 (by omega))))), (((f_44 (b + 1) 3 (by omega))).trans ((h_27).trans ((f_5 (i + 9) 3 (by omega))))), ((rfl).trans ((h_48).trans (((f_23 (i + 19) 6 (by omega)).trans (f_5 (i + 19) 6 (by omega)))))), (fun j hj => ((f_44 (b + 1 + 1) j (by omega))).trans ((h_30 j hj).trans ((f_5 (i + 9 + 1) j (by omega)))))⟩⟩

abbrev qctX9_image2 (M : zM) (k : Int) (z : Int) (M' : zM) : Prop := (∀ u_ v_, (u_ < 101 ∨ 101 + 128 ≤ u_) → M' u_ v_ = M u_ v_) ∧ Gd M' 37 (45 + 1) ∧ (∀ o : Nat, (o : Int) = 101 + 32 * k → 0 ≤ k → k < 4 → (M' o 0 = 1 ∧ M' (o + 19) 0 = M (45 + 11) 0 ∧ Gd M' (o + 1) (o + 9) ∧ ∀ u_ v_, (u_ < o ∨ o + 32 ≤ u_) → M' u_ v_ = M u_ v_)) ∧ ((k < 0 ∨ 4 ≤ k) → M = M') ∧ ((0 ≤ k ∧ k < 4 ∧ z = M (45 + 1) 0) ∨ ((k < 0 ∨ 4 ≤ k) ∧ z = -1)) ∧ (∀ o : Nat, (o : Int) = 101 + 32 * k → 0 ≤ k → k < 4 → Cb M M' 37 (45 + 1) (45 + 11) (o + 1) (o + 9) (o + 19))
set_option maxHeartbeats 4000000 in
set_option maxRecDepth 100000 in
theorem ctX9_image2 (Γ : Gam) (M : zM) (k : Int) (hkl : (-2147483648) ≤ k) (hku : k ≤ 2147483647) (gd0 : Gd M 37 (45 + 1)) : CtI Γ yX9_image cX9_image 2 (some .int) 4 123 [aR Γ 0, vI k] M (qctX9_image2 M k) := by
  refine met_i (by decide) (Nat.le_of_ble_eq_true rfl) (fun x hx hr => ?_)
  show G Γ x 2 (QI Γ x (qctX9_image2 M k)) M 0 [(0, aR Γ 0), (1, vI k)] []
  refine g_iload_n (n := 1) hx 1 (dq tX9_image 0 rfl) rfl rfl ?_
  refine g_if_lt (n := 4) (t := 9) hx (dq tX9_image 1 rfl) (by decide) rfl (zrI hkl hku (by decide) (by decide)) (fun c_1 => ?_) (fun c_1 => ?_)
  · refine g_iconst (n := 10) hx (dq tX9_image 5 rfl) rfl ?_
    exact g_iret hx hr (dq tX9_image 6 rfl) ⟨by decide, by decide⟩ ⟨(fun _ _ _ => rfl), gd0, (fun o ho hk0 hk4 => absurd hk4 (by omega)), (fun _ => rfl), (by omega), (fun o ho hk0 hk4 => absurd hk4 (by omega))⟩
  · refine g_iload_n (n := 5) hx 1 (dq tX9_image 2 rfl) rfl rfl ?_
    refine g_iconst (n := 6) hx (dq tX9_image 3 rfl) rfl ?_
    refine g_icmp_lt (n := 9) (t := 11) hx (dq tX9_image 4 rfl) (by decide) rfl (zrI hkl hku (by decide) (by decide)) ⟨by decide, by decide⟩ (fun c_2 => ?_) (fun c_2 => ?_)
    · refine g_aload_n (n := 12) hx 0 (dq tX9_image 7 rfl) rfl rfl ?_
      refine g_getR (n := 15) hx glX9_60 (sX9_7 (by decide)) (dq tX9_image 8 rfl) rfl ?_
      refine g_iload_n (n := 16) hx 1 (dq tX9_image 9 rfl) rfl rfl ?_
      refine g_aald (n := 17) (q := k.toNat) hx (aX9_7 (b := 0) (by decide)) (by decide) (dq tX9_image 10 rfl) rfl (by omega) (by omega) (by omega) rfl ?_
      refine g_named (c := zrf 2 k.toNat) (fun o_3 eo_3 => ?_)
      have o_4 : isX1 o_3 := by rw [eo_3]; exact zrfX1 k.toNat (by omega)
      have o_4n : (o_3 : Int) = 101 + 32 * k := by rw [eo_3]; exact zrfnX1 (by omega) (by omega)
      refine g_aload_n (n := 18) hx 0 (dq tX9_image 11 rfl) rfl rfl ?_
      refine g_getR (n := 21) hx glX9_47 (sX9_5 (by decide)) (dq tX9_image 12 rfl) rfl ?_
      refine g_callVv (n := 24) (As := [aR Γ 45]) (rest := []) hx (ctX1_take2 Γ M o_3 o_4 45 (by decide) gd0) mlX9_421 (obX1 o_4) (dq tX9_image 13 rfl) rfl (Nat.le_of_ble_eq_true rfl) (Nat.le_of_ble_eq_true rfl) (Nat.le_of_ble_eq_true rfl) rfl (fun M_6 p_8 => ?_)
      obtain ⟨f_9, g_10, h_11, h_12, h_13, h_14⟩ := p_8
      refine g_aload_n (n := 25) hx 0 (dq tX9_image 14 rfl) rfl rfl ?_
      refine g_getR (n := 28) hx glX9_47 (sX9_5 (by decide)) (dq tX9_image 15 rfl) rfl ?_
      refine g_getR (n := 31) hx glX9_100 (sX8_1 (by decide)) (dq tX9_image 16 rfl) rfl ?_
      refine g_getI (n := 34) hx glX9_297 (sX6_0 (iX8_1 (by decide))) (dq tX9_image 17 rfl) rfl (fun h_16l h_16u => ?_)
      have e_17 : M_6 (45 + 1) 0 = M (45 + 1) 0 := (f_9 (45 + 1) 0 (by omega))
      have e_18 : M_6 37 1 = M 37 1 := (f_9 37 1 (by omega))
      have e_19 : M_6 37 3 = M 37 3 := (f_9 37 3 (by omega))
      exact g_iret hx hr (dq tX9_image 18 rfl) (zrI h_16l h_16u (by decide) (by decide)) ⟨(fun u_ v_ huv_ => (f_9 u_ v_ (by omega))), g_10, (fun o ho hk0 hk4 => by
      have e : o = o_3 := by omega
      rw [e]
      exact ⟨h_12, h_13, h_11, f_9⟩), (fun hk => absurd hk (by omega)), (by omega), (fun o ho hk0 hk4 => by
      have e : o = o_3 := by omega
      rw [e]
      exact h_14)⟩
    · refine g_iconst (n := 10) hx (dq tX9_image 5 rfl) rfl ?_
      exact g_iret hx hr (dq tX9_image 6 rfl) ⟨by decide, by decide⟩ ⟨(fun _ _ _ => rfl), gd0, (fun o ho hk0 hk4 => absurd hk4 (by omega)), (fun _ => rfl), (by omega), (fun o ho hk0 hk4 => absurd hk4 (by omega))⟩

abbrev qctX9_back3 (M : zM) (k : Int) (z : Int) (M' : zM) : Prop := (∀ u_ v_, (u_ < 37 ∨ 37 + 8 ≤ u_) ∧ (u_ < 45 + 1 ∨ 45 + 24 ≤ u_) → M' u_ v_ = M u_ v_) ∧ Gd M' 37 (45 + 1) ∧ (∀ o : Nat, (o : Int) = 101 + 32 * k → 0 ≤ k → k < 4 → M o 0 = 1 → M' (45 + 11) 0 = M (o + 19) 0) ∧ ((k < 0 ∨ 4 ≤ k) → M = M') ∧ (∀ o : Nat, (o : Int) = 101 + 32 * k → 0 ≤ k → k < 4 → M o 0 = 0 → M = M') ∧ ((k < 0 ∨ 4 ≤ k) → z = -1) ∧ (∀ o : Nat, (o : Int) = 101 + 32 * k → 0 ≤ k → k < 4 → M o 0 = 1 → (z = M' (45 + 1) 0 ∧ Cb M M' (o + 1) (o + 9) (o + 19) 37 (45 + 1) (45 + 11))) ∧ (∀ o : Nat, (o : Int) = 101 + 32 * k → 0 ≤ k → k < 4 → M o 0 = 0 → z = -1)
set_option maxHeartbeats 4000000 in
set_option maxRecDepth 100000 in
theorem ctX9_back3 (Γ : Gam) (M : zM) (k : Int) (hkl : (-2147483648) ≤ k) (hku : k ≤ 2147483647) (gd0 : Gd M 37 (45 + 1)) (ex0 : ImOk M) : CtI Γ yX9_back cX9_back 2 (some .int) 4 123 [aR Γ 0, vI k] M (qctX9_back3 M k) := by
  refine met_i (by decide) (Nat.le_of_ble_eq_true rfl) (fun x hx hr => ?_)
  show G Γ x 2 (QI Γ x (qctX9_back3 M k)) M 0 [(0, aR Γ 0), (1, vI k)] []
  refine g_iload_n (n := 1) hx 1 (dq tX9_back 0 rfl) rfl rfl ?_
  refine g_if_lt (n := 4) (t := 21) hx (dq tX9_back 1 rfl) (by decide) rfl (zrI hkl hku (by decide) (by decide)) (fun c_1 => ?_) (fun c_1 => ?_)
  · refine g_iconst (n := 22) hx (dq tX9_back 11 rfl) rfl ?_
    exact g_iret hx hr (dq tX9_back 12 rfl) ⟨by decide, by decide⟩ ⟨(fun _ _ _ => rfl), gd0, (fun o ho hk0 hk4 hm => by first | omega | (have e : o = o := (by omega); rw [e] at hm; omega)), (fun _ => rfl), (fun _ _ _ _ _ => rfl), (fun hk => by omega), (fun o ho hk0 hk4 hm => by exfalso; first | omega | (have e : o = o := (by omega); rw [e] at hm; omega)), (fun _ _ _ _ _ => by omega)⟩
  · refine g_iload_n (n := 5) hx 1 (dq tX9_back 2 rfl) rfl rfl ?_
    refine g_iconst (n := 6) hx (dq tX9_back 3 rfl) rfl ?_
    refine g_icmp_ge (n := 9) (t := 21) hx (dq tX9_back 4 rfl) (by decide) rfl (zrI hkl hku (by decide) (by decide)) ⟨by decide, by decide⟩ (fun c_2 => ?_) (fun c_2 => ?_)
    · refine g_iconst (n := 22) hx (dq tX9_back 11 rfl) rfl ?_
      exact g_iret hx hr (dq tX9_back 12 rfl) ⟨by decide, by decide⟩ ⟨(fun _ _ _ => rfl), gd0, (fun o ho hk0 hk4 hm => by first | omega | (have e : o = o := (by omega); rw [e] at hm; omega)), (fun _ => rfl), (fun _ _ _ _ _ => rfl), (fun hk => by omega), (fun o ho hk0 hk4 hm => by exfalso; first | omega | (have e : o = o := (by omega); rw [e] at hm; omega)), (fun _ _ _ _ _ => by omega)⟩
    · refine g_aload_n (n := 10) hx 0 (dq tX9_back 5 rfl) rfl rfl ?_
      refine g_getR (n := 13) hx glX9_60 (sX9_7 (by decide)) (dq tX9_back 6 rfl) rfl ?_
      refine g_iload_n (n := 14) hx 1 (dq tX9_back 7 rfl) rfl rfl ?_
      refine g_aald (n := 15) (q := k.toNat) hx (aX9_7 (b := 0) (by decide)) (by decide) (dq tX9_back 8 rfl) rfl (by omega) (by omega) (by omega) rfl ?_
      refine g_named (c := zrf 2 k.toNat) (fun o_3 eo_3 => ?_)
      have o_4 : isX1 o_3 := by rw [eo_3]; exact zrfX1 k.toNat (by omega)
      have o_4n : (o_3 : Int) = 101 + 32 * k := by rw [eo_3]; exact zrfnX1 (by omega) (by omega)
      refine g_getI (n := 18) hx glX9_424 (sX1_0 o_4) (dq tX9_back 9 rfl) rfl (fun h_5l h_5u => ?_)
      refine g_if_ne (n := 21) (t := 23) hx (dq tX9_back 10 rfl) (by decide) rfl (zrI h_5l h_5u (by decide) (by decide)) (fun c_6 => ?_) (fun c_6 => ?_)
      · refine g_aload_n (n := 24) hx 0 (dq tX9_back 13 rfl) rfl rfl ?_
        refine g_getR (n := 27) hx glX9_60 (sX9_7 (by decide)) (dq tX9_back 14 rfl) rfl ?_
        refine g_iload_n (n := 28) hx 1 (dq tX9_back 15 rfl) rfl rfl ?_
        refine g_aald (n := 29) (q := k.toNat) hx (aX9_7 (b := 0) (by decide)) (by decide) (dq tX9_back 16 rfl) rfl (by omega) (by omega) (by omega) rfl ?_
        refine g_named (c := zrf 2 k.toNat) (fun o_7 eo_7 => ?_)
        have o_8 : isX1 o_7 := by rw [eo_7]; exact zrfX1 k.toNat (by omega)
        have o_8n : (o_7 : Int) = 101 + 32 * k := by rw [eo_7]; exact zrfnX1 (by omega) (by omega)
        refine g_aload_n (n := 30) hx 0 (dq tX9_back 17 rfl) rfl rfl ?_
        refine g_getR (n := 33) hx glX9_47 (sX9_5 (by decide)) (dq tX9_back 18 rfl) rfl ?_
        have g_9e : o_7 = o_3 := by omega
        have g_9m : M o_7 0 = 1 := by rw [g_9e]; omega
        have g_9 := ex0 o_7 o_8 g_9m
        refine g_callVv (n := 36) (As := [aR Γ 45]) (rest := []) hx (ctX1_give2 Γ M o_7 o_8 45 (by decide) g_9) mlX9_428 (obX1 o_8) (dq tX9_back 19 rfl) rfl (Nat.le_of_ble_eq_true rfl) (Nat.le_of_ble_eq_true rfl) (Nat.le_of_ble_eq_true rfl) rfl (fun M_11 p_13 => ?_)
        obtain ⟨f_14, g_15, h_16, h_17, h_18⟩ := p_13
        refine g_aload_n (n := 37) hx 0 (dq tX9_back 20 rfl) rfl rfl ?_
        refine g_getR (n := 40) hx glX9_47 (sX9_5 (by decide)) (dq tX9_back 21 rfl) rfl ?_
        refine g_getR (n := 43) hx glX9_100 (sX8_1 (by decide)) (dq tX9_back 22 rfl) rfl ?_
        refine g_getI (n := 46) hx glX9_297 (sX6_0 (iX8_1 (by decide))) (dq tX9_back 23 rfl) rfl (fun h_21l h_21u => ?_)
        exact g_iret hx hr (dq tX9_back 24 rfl) (zrI h_21l h_21u (by decide) (by decide)) ⟨(fun u_ v_ huv_ => (f_14 u_ v_ (by omega))), h_16, (fun o ho hk0 hk4 hm => by
      have e : o = o_7 := by omega
      rw [e]
      exact h_17), (fun hk => absurd hk (by omega)), (fun o ho hk0 hk4 hm => absurd hm (by have e : o = o_7 := (by omega); rw [e]; omega)), (fun hk => by omega), (fun o ho hk0 hk4 hm => by
      have e : o = o_7 := by omega
      rw [e]
      exact ⟨by omega, h_18⟩), (fun o ho hk0 hk4 hm => absurd hm (by have e : o = o_7 := (by omega); rw [e]; omega))⟩
      · refine g_iconst (n := 22) hx (dq tX9_back 11 rfl) rfl ?_
        exact g_iret hx hr (dq tX9_back 12 rfl) ⟨by decide, by decide⟩ ⟨(fun _ _ _ => rfl), gd0, (fun o ho hk0 hk4 hm => by first | omega | (have e : o = o_3 := (by omega); rw [e] at hm; omega)), (fun _ => rfl), (fun _ _ _ _ _ => rfl), (fun hk => by omega), (fun o ho hk0 hk4 hm => by exfalso; first | omega | (have e : o = o_3 := (by omega); rw [e] at hm; omega)), (fun _ _ _ _ _ => by omega)⟩
