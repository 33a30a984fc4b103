abbrev qctX10_carries0 (M : zM) (k : Int) (back_ : Int) (M' : zM) : Prop := (∀ u_ v_, u_ ≠ 229 + 56 ∧ (u_ ≠ 229 ∨ v_ ≠ 78) ∧ (u_ ≠ 229 ∨ v_ ≠ 79) → M' u_ v_ = M u_ v_) ∧ (∀ c j : Nat, 230 ≤ c → c ≤ 257 → j < zln c → M' (229 + 56) (900 * k.toNat + zof c + j) = M c j) ∧ (∀ j : Nat, (j < 900 * k.toNat ∨ 900 * k.toNat + 900 ≤ j) → M' (229 + 56) j = M (229 + 56) j)
set_option maxHeartbeats 4000000 in
set_option maxRecDepth 100000 in
theorem ctX10_carries0 (Γ : Gam) (M : zM) (k : Int) (hkl : 0 ≤ k) (hku : k ≤ 4) (back_ : Int) (hback_l : 0 ≤ back_) (hback_u : back_ ≤ 0)  : CtV Γ yX10_carriesAll cX10_carriesAll 3 none 1 22 [aR Γ 229, vI k, vI back_] M (qctX10_carries0 M k back_) := by
  refine met_v (by decide) (Nat.le_of_ble_eq_true rfl) (fun x hx hr => ?_)
  show G Γ x 3 (QV Γ x (qctX10_carries0 M k back_)) M 0 [(0, aR Γ 229), (1, vI k), (2, vI back_)] []
  refine g_aload_n (n := 1) hx 0 (dq tX10_carriesAll 0 rfl) rfl rfl ?_
  refine g_sipush (n := 4) hx (dq tX10_carriesAll 1 rfl) rfl (by decide) ?_
  refine g_iload_n (n := 5) hx 1 (dq tX10_carriesAll 2 rfl) rfl rfl ?_
  refine g_imul (n := 6) hx (dq tX10_carriesAll 3 rfl) rfl ?_
  refine g_putI (n := 9) hx plX10_644 (sX10_78 (by decide)) (dq tX10_carriesAll 4 rfl) rfl (by omega) (by omega) (fun M_1 m_2e m_2 => ?_)
  refine g_aload_n (n := 10) hx 0 (dq tX10_carriesAll 5 rfl) rfl rfl ?_
  refine g_iload_n (n := 11) hx 2 (dq tX10_carriesAll 6 rfl) rfl rfl ?_
  refine g_putZ (n := 14) hx plX10_641 (sX10_79 (by decide)) (dq tX10_carriesAll 7 rfl) rfl (by omega) (by omega) (by omega) (fun M_3 m_4e m_4 => ?_)
  refine g_aload_n (n := 15) hx 0 (dq tX10_carriesAll 8 rfl) rfl rfl ?_
  refine g_aload_n (n := 16) hx 0 (dq tX10_carriesAll 9 rfl) rfl rfl ?_
  refine g_getR (n := 19) hx glX10_9 (sX10_1 (by decide)) (dq tX10_carriesAll 10 rfl) rfl ?_
  have e_5 : M_3 229 78 = M_1 229 78 := (m_4 229 78 (by omega))
  have T_6 : Tk M_3 M k 229 := Tk.nil (fun u v h => ((m_4 u v (by omega)).trans (m_2 u v (by omega))))
  refine g_callVv (n := 22) (As := [aR Γ (229 + 1)]) (rest := []) hx (ctX10_carryT Γ M_3 (229 + 1) 17 (900 * k + 0) (aX10_1 (b := 229) (by decide)) (by decide) (by omega) (by omega) (by omega) (by omega) (by decide) (by decide)) mlX10_647 (obX10 (by decide)) (dq tX10_carriesAll 11 rfl) rfl (Nat.le_of_ble_eq_true rfl) (Nat.le_of_ble_eq_true rfl) (Nat.le_of_ble_eq_true rfl) rfl (fun M_8 p_10 => ?_)
  have T_14 : Tk M_8 M k (229 + 1) := Tk.go T_6 p_10 (by decide) rfl (by decide) hkl rfl rfl
  have f_13 : ∀ u_ v_ : Nat, (u_ ≠ 229 + 56 ∧ (u_ ≠ 229 ∨ v_ ≠ 78)) → M_8 u_ v_ = M_3 u_ v_ := fun u v h => p_10.1 u v h.1 h.2
  have f_12 : M_8 229 78 = (900 * k + 0) + 17 := p_10.2.2.2
  have f_12g : M_8 229 79 = M_3 229 79 := f_13 229 79 (by omega)
  clear p_10
  refine g_aload_n (n := 23) hx 0 (dq tX10_carriesAll 12 rfl) rfl rfl ?_
  refine g_aload_n (n := 24) hx 0 (dq tX10_carriesAll 13 rfl) rfl rfl ?_
  refine g_getR (n := 27) hx glX10_13 (sX10_2 (by decide)) (dq tX10_carriesAll 14 rfl) rfl ?_
  refine g_callVv (n := 30) (As := [aR Γ (229 + 2)]) (rest := []) hx (ctX10_carryT Γ M_8 (229 + 2) 9 (900 * k + 17) (akI (aX10_2 (b := 229) (by decide))) (by decide) (by omega) (by omega) (by omega) (by omega) (by decide) (by decide)) mlX10_647 (obX10 (by decide)) (dq tX10_carriesAll 15 rfl) rfl (Nat.le_of_ble_eq_true rfl) (Nat.le_of_ble_eq_true rfl) (Nat.le_of_ble_eq_true rfl) rfl (fun M_16 p_18 => ?_)
  have T_22 : Tk M_16 M k (229 + 2) := Tk.go T_14 p_18 (by decide) rfl (by decide) hkl rfl rfl
  have f_21 : ∀ u_ v_ : Nat, (u_ ≠ 229 + 56 ∧ (u_ ≠ 229 ∨ v_ ≠ 78)) → M_16 u_ v_ = M_8 u_ v_ := fun u v h => p_18.1 u v h.1 h.2
  have f_20 : M_16 229 78 = (900 * k + 17) + 9 := p_18.2.2.2
  have f_20g : M_16 229 79 = M_8 229 79 := f_21 229 79 (by omega)
  clear p_18
  refine g_aload_n (n := 31) hx 0 (dq tX10_carriesAll 16 rfl) rfl rfl ?_
  refine g_aload_n (n := 32) hx 0 (dq tX10_carriesAll 17 rfl) rfl rfl ?_
  refine g_getR (n := 35) hx glX10_16 (sX10_3 (by decide)) (dq tX10_carriesAll 18 rfl) rfl ?_
  refine g_callVv (n := 38) (As := [aR Γ (229 + 3)]) (rest := []) hx (ctX10_carryT Γ M_16 (229 + 3) 9 (900 * k + 26) (akI (aX10_3 (b := 229) (by decide))) (by decide) (by omega) (by omega) (by omega) (by omega) (by decide) (by decide)) mlX10_647 (obX10 (by decide)) (dq tX10_carriesAll 19 rfl) rfl (Nat.le_of_ble_eq_true rfl) (Nat.le_of_ble_eq_true rfl) (Nat.le_of_ble_eq_true rfl) rfl (fun M_24 p_26 => ?_)
  have T_30 : Tk M_24 M k (229 + 3) := Tk.go T_22 p_26 (by decide) rfl (by decide) hkl rfl rfl
  have f_29 : ∀ u_ v_ : Nat, (u_ ≠ 229 + 56 ∧ (u_ ≠ 229 ∨ v_ ≠ 78)) → M_24 u_ v_ = M_16 u_ v_ := fun u v h => p_26.1 u v h.1 h.2
  have f_28 : M_24 229 78 = (900 * k + 26) + 9 := p_26.2.2.2
  have f_28g : M_24 229 79 = M_16 229 79 := f_29 229 79 (by omega)
  clear p_26
  refine g_aload_n (n := 39) hx 0 (dq tX10_carriesAll 20 rfl) rfl rfl ?_
  refine g_aload_n (n := 40) hx 0 (dq tX10_carriesAll 21 rfl) rfl rfl ?_
  refine g_getR (n := 43) hx glX10_19 (sX10_4 (by decide)) (dq tX10_carriesAll 22 rfl) rfl ?_
  refine g_callVv (n := 46) (As := [aR Γ (229 + 4)]) (rest := []) hx (ctX10_carryT Γ M_24 (229 + 4) 4 (900 * k + 35) (akI (aX10_4 (b := 229) (by decide))) (by decide) (by omega) (by omega) (by omega) (by omega) (by decide) (by decide)) mlX10_647 (obX10 (by decide)) (dq tX10_carriesAll 23 rfl) rfl (Nat.le_of_ble_eq_true rfl) (Nat.le_of_ble_eq_true rfl) (Nat.le_of_ble_eq_true rfl) rfl (fun M_32 p_34 => ?_)
  have T_38 : Tk M_32 M k (229 + 4) := Tk.go T_30 p_34 (by decide) rfl (by decide) hkl rfl rfl
  have f_37 : ∀ u_ v_ : Nat, (u_ ≠ 229 + 56 ∧ (u_ ≠ 229 ∨ v_ ≠ 78)) → M_32 u_ v_ = M_24 u_ v_ := fun u v h => p_34.1 u v h.1 h.2
  have f_36 : M_32 229 78 = (900 * k + 35) + 4 := p_34.2.2.2
  have f_36g : M_32 229 79 = M_24 229 79 := f_37 229 79 (by omega)
  clear p_34
  refine g_aload_n (n := 47) hx 0 (dq tX10_carriesAll 24 rfl) rfl rfl ?_
  refine g_aload_n (n := 48) hx 0 (dq tX10_carriesAll 25 rfl) rfl rfl ?_
  refine g_getR (n := 51) hx glX10_22 (sX10_5 (by decide)) (dq tX10_carriesAll 26 rfl) rfl ?_
  refine g_callVv (n := 54) (As := [aR Γ (229 + 5)]) (rest := []) hx (ctX10_carryT Γ M_32 (229 + 5) 6 (900 * k + 39) (akI (aX10_5 (b := 229) (by decide))) (by decide) (by omega) (by omega) (by omega) (by omega) (by decide) (by decide)) mlX10_647 (obX10 (by decide)) (dq tX10_carriesAll 27 rfl) rfl (Nat.le_of_ble_eq_true rfl) (Nat.le_of_ble_eq_true rfl) (Nat.le_of_ble_eq_true rfl) rfl (fun M_40 p_42 => ?_)
  have T_46 : Tk M_40 M k (229 + 5) := Tk.go T_38 p_42 (by decide) rfl (by decide) hkl rfl rfl
  have f_45 : ∀ u_ v_ : Nat, (u_ ≠ 229 + 56 ∧ (u_ ≠ 229 ∨ v_ ≠ 78)) → M_40 u_ v_ = M_32 u_ v_ := fun u v h => p_42.1 u v h.1 h.2
  have f_44 : M_40 229 78 = (900 * k + 39) + 6 := p_42.2.2.2
  have f_44g : M_40 229 79 = M_32 229 79 := f_45 229 79 (by omega)
  clear p_42
  refine g_aload_n (n := 55) hx 0 (dq tX10_carriesAll 28 rfl) rfl rfl ?_
  refine g_aload_n (n := 56) hx 0 (dq tX10_carriesAll 29 rfl) rfl rfl ?_
  refine g_getR (n := 59) hx glX10_25 (sX10_6 (by decide)) (dq tX10_carriesAll 30 rfl) rfl ?_
  refine g_callVv (n := 62) (As := [aR Γ (229 + 6)]) (rest := []) hx (ctX10_carryT Γ M_40 (229 + 6) 6 (900 * k + 45) (akI (aX10_6 (b := 229) (by decide))) (by decide) (by omega) (by omega) (by omega) (by omega) (by decide) (by decide)) mlX10_647 (obX10 (by decide)) (dq tX10_carriesAll 31 rfl) rfl (Nat.le_of_ble_eq_true rfl) (Nat.le_of_ble_eq_true rfl) (Nat.le_of_ble_eq_true rfl) rfl (fun M_48 p_50 => ?_)
  have T_54 : Tk M_48 M k (229 + 6) := Tk.go T_46 p_50 (by decide) rfl (by decide) hkl rfl rfl
  have f_53 : ∀ u_ v_ : Nat, (u_ ≠ 229 + 56 ∧ (u_ ≠ 229 ∨ v_ ≠ 78)) → M_48 u_ v_ = M_40 u_ v_ := fun u v h => p_50.1 u v h.1 h.2
  have f_52 : M_48 229 78 = (900 * k + 45) + 6 := p_50.2.2.2
  have f_52g : M_48 229 79 = M_40 229 79 := f_53 229 79 (by omega)
  clear p_50
  refine g_aload_n (n := 63) hx 0 (dq tX10_carriesAll 32 rfl) rfl rfl ?_
  refine g_aload_n (n := 64) hx 0 (dq tX10_carriesAll 33 rfl) rfl rfl ?_
  refine g_getR (n := 67) hx glX10_28 (sX10_7 (by decide)) (dq tX10_carriesAll 34 rfl) rfl ?_
  refine g_callVv (n := 70) (As := [aR Γ (229 + 7)]) (rest := []) hx (ctX10_carryT Γ M_48 (229 + 7) 6 (900 * k + 51) (akI (aX10_7 (b := 229) (by decide))) (by decide) (by omega) (by omega) (by omega) (by omega) (by decide) (by decide)) mlX10_647 (obX10 (by decide)) (dq tX10_carriesAll 35 rfl) rfl (Nat.le_of_ble_eq_true rfl) (Nat.le_of_ble_eq_true rfl) (Nat.le_of_ble_eq_true rfl) rfl (fun M_56 p_58 => ?_)
  have T_62 : Tk M_56 M k (229 + 7) := Tk.go T_54 p_58 (by decide) rfl (by decide) hkl rfl rfl
  have f_61 : ∀ u_ v_ : Nat, (u_ ≠ 229 + 56 ∧ (u_ ≠ 229 ∨ v_ ≠ 78)) → M_56 u_ v_ = M_48 u_ v_ := fun u v h => p_58.1 u v h.1 h.2
  have f_60 : M_56 229 78 = (900 * k + 51) + 6 := p_58.2.2.2
  have f_60g : M_56 229 79 = M_48 229 79 := f_61 229 79 (by omega)
  clear p_58
  refine g_aload_n (n := 71) hx 0 (dq tX10_carriesAll 36 rfl) rfl rfl ?_
  refine g_aload_n (n := 72) hx 0 (dq tX10_carriesAll 37 rfl) rfl rfl ?_
  refine g_getR (n := 75) hx glX10_31 (sX10_8 (by decide)) (dq tX10_carriesAll 38 rfl) rfl ?_
  refine g_callVv (n := 78) (As := [aR Γ (229 + 8)]) (rest := []) hx (ctX10_carryT Γ M_56 (229 + 8) 36 (900 * k + 57) (akI (aX10_8 (b := 229) (by decide))) (by decide) (by omega) (by omega) (by omega) (by omega) (by decide) (by decide)) mlX10_647 (obX10 (by decide)) (dq tX10_carriesAll 39 rfl) rfl (Nat.le_of_ble_eq_true rfl) (Nat.le_of_ble_eq_true rfl) (Nat.le_of_ble_eq_true rfl) rfl (fun M_64 p_66 => ?_)
  have T_70 : Tk M_64 M k (229 + 8) := Tk.go T_62 p_66 (by decide) rfl (by decide) hkl rfl rfl
  have f_69 : ∀ u_ v_ : Nat, (u_ ≠ 229 + 56 ∧ (u_ ≠ 229 ∨ v_ ≠ 78)) → M_64 u_ v_ = M_56 u_ v_ := fun u v h => p_66.1 u v h.1 h.2
  have f_68 : M_64 229 78 = (900 * k + 57) + 36 := p_66.2.2.2
  have f_68g : M_64 229 79 = M_56 229 79 := f_69 229 79 (by omega)
  clear p_66
  refine g_aload_n (n := 79) hx 0 (dq tX10_carriesAll 40 rfl) rfl rfl ?_
  refine g_aload_n (n := 80) hx 0 (dq tX10_carriesAll 41 rfl) rfl rfl ?_
  refine g_getR (n := 83) hx glX10_34 (sX10_9 (by decide)) (dq tX10_carriesAll 42 rfl) rfl ?_
  refine g_callVv (n := 86) (As := [aR Γ (229 + 9)]) (rest := []) hx (ctX10_carryT Γ M_64 (229 + 9) 12 (900 * k + 93) (akI (aX10_9 (b := 229) (by decide))) (by decide) (by omega) (by omega) (by omega) (by omega) (by decide) (by decide)) mlX10_647 (obX10 (by decide)) (dq tX10_carriesAll 43 rfl) rfl (Nat.le_of_ble_eq_true rfl) (Nat.le_of_ble_eq_true rfl) (Nat.le_of_ble_eq_true rfl) rfl (fun M_72 p_74 => ?_)
  have T_78 : Tk M_72 M k (229 + 9) := Tk.go T_70 p_74 (by decide) rfl (by decide) hkl rfl rfl
  have f_77 : ∀ u_ v_ : Nat, (u_ ≠ 229 + 56 ∧ (u_ ≠ 229 ∨ v_ ≠ 78)) → M_72 u_ v_ = M_64 u_ v_ := fun u v h => p_74.1 u v h.1 h.2
  have f_76 : M_72 229 78 = (900 * k + 93) + 12 := p_74.2.2.2
  have f_76g : M_72 229 79 = M_64 229 79 := f_77 229 79 (by omega)
  clear p_74
  refine g_aload_n (n := 87) hx 0 (dq tX10_carriesAll 44 rfl) rfl rfl ?_
  refine g_aload_n (n := 88) hx 0 (dq tX10_carriesAll 45 rfl) rfl rfl ?_
  refine g_getR (n := 91) hx glX10_37 (sX10_10 (by decide)) (dq tX10_carriesAll 46 rfl) rfl ?_
  refine g_callVv (n := 94) (As := [aR Γ (229 + 10)]) (rest := []) hx (ctX10_carryT Γ M_72 (229 + 10) 12 (900 * k + 105) (akI (aX10_10 (b := 229) (by decide))) (by decide) (by omega) (by omega) (by omega) (by omega) (by decide) (by decide)) mlX10_647 (obX10 (by decide)) (dq tX10_carriesAll 47 rfl) rfl (Nat.le_of_ble_eq_true rfl) (Nat.le_of_ble_eq_true rfl) (Nat.le_of_ble_eq_true rfl) rfl (fun M_80 p_82 => ?_)
  have T_86 : Tk M_80 M k (229 + 10) := Tk.go T_78 p_82 (by decide) rfl (by decide) hkl rfl rfl
  have f_85 : ∀ u_ v_ : Nat, (u_ ≠ 229 + 56 ∧ (u_ ≠ 229 ∨ v_ ≠ 78)) → M_80 u_ v_ = M_72 u_ v_ := fun u v h => p_82.1 u v h.1 h.2
  have f_84 : M_80 229 78 = (900 * k + 105) + 12 := p_82.2.2.2
  have f_84g : M_80 229 79 = M_72 229 79 := f_85 229 79 (by omega)
  clear p_82
  refine g_aload_n (n := 95) hx 0 (dq tX10_carriesAll 48 rfl) rfl rfl ?_
  refine g_aload_n (n := 96) hx 0 (dq tX10_carriesAll 49 rfl) rfl rfl ?_
  refine g_getR (n := 99) hx glX10_40 (sX10_11 (by decide)) (dq tX10_carriesAll 50 rfl) rfl ?_
  refine g_callVv (n := 102) (As := [aR Γ (229 + 11)]) (rest := []) hx (ctX10_carryT Γ M_80 (229 + 11) 12 (900 * k + 117) (akI (aX10_11 (b := 229) (by decide))) (by decide) (by omega) (by omega) (by omega) (by omega) (by decide) (by decide)) mlX10_647 (obX10 (by decide)) (dq tX10_carriesAll 51 rfl) rfl (Nat.le_of_ble_eq_true rfl) (Nat.le_of_ble_eq_true rfl) (Nat.le_of_ble_eq_true rfl) rfl (fun M_88 p_90 => ?_)
  have T_94 : Tk M_88 M k (229 + 11) := Tk.go T_86 p_90 (by decide) rfl (by decide) hkl rfl rfl
  have f_93 : ∀ u_ v_ : Nat, (u_ ≠ 229 + 56 ∧ (u_ ≠ 229 ∨ v_ ≠ 78)) → M_88 u_ v_ = M_80 u_ v_ := fun u v h => p_90.1 u v h.1 h.2
  have f_92 : M_88 229 78 = (900 * k + 117) + 12 := p_90.2.2.2
  have f_92g : M_88 229 79 = M_80 229 79 := f_93 229 79 (by omega)
  clear p_90
  refine g_aload_n (n := 103) hx 0 (dq tX10_carriesAll 52 rfl) rfl rfl ?_
  refine g_aload_n (n := 104) hx 0 (dq tX10_carriesAll 53 rfl) rfl rfl ?_
  refine g_getR (n := 107) hx glX10_43 (sX10_12 (by decide)) (dq tX10_carriesAll 54 rfl) rfl ?_
  refine g_callVv (n := 110) (As := [aR Γ (229 + 12)]) (rest := []) hx (ctX10_carryT Γ M_88 (229 + 12) 12 (900 * k + 129) (akI (aX10_12 (b := 229) (by decide))) (by decide) (by omega) (by omega) (by omega) (by omega) (by decide) (by decide)) mlX10_647 (obX10 (by decide)) (dq tX10_carriesAll 55 rfl) rfl (Nat.le_of_ble_eq_true rfl) (Nat.le_of_ble_eq_true rfl) (Nat.le_of_ble_eq_true rfl) rfl (fun M_96 p_98 => ?_)
  have T_102 : Tk M_96 M k (229 + 12) := Tk.go T_94 p_98 (by decide) rfl (by decide) hkl rfl rfl
  have f_101 : ∀ u_ v_ : Nat, (u_ ≠ 229 + 56 ∧ (u_ ≠ 229 ∨ v_ ≠ 78)) → M_96 u_ v_ = M_88 u_ v_ := fun u v h => p_98.1 u v h.1 h.2
  have f_100 : M_96 229 78 = (900 * k + 129) + 12 := p_98.2.2.2
  have f_100g : M_96 229 79 = M_88 229 79 := f_101 229 79 (by omega)
  clear p_98
  refine g_aload_n (n := 111) hx 0 (dq tX10_carriesAll 56 rfl) rfl rfl ?_
  refine g_aload_n (n := 112) hx 0 (dq tX10_carriesAll 57 rfl) rfl rfl ?_
  refine g_getR (n := 115) hx glX10_46 (sX10_13 (by decide)) (dq tX10_carriesAll 58 rfl) rfl ?_
  refine g_callVv (n := 118) (As := [aR Γ (229 + 13)]) (rest := []) hx (ctX10_carryT Γ M_96 (229 + 13) 12 (900 * k + 141) (akI (aX10_13 (b := 229) (by decide))) (by decide) (by omega) (by omega) (by omega) (by omega) (by decide) (by decide)) mlX10_647 (obX10 (by decide)) (dq tX10_carriesAll 59 rfl) rfl (Nat.le_of_ble_eq_true rfl) (Nat.le_of_ble_eq_true rfl) (Nat.le_of_ble_eq_true rfl) rfl (fun M_104 p_106 => ?_)
  have T_110 : Tk M_104 M k (229 + 13) := Tk.go T_102 p_106 (by decide) rfl (by decide) hkl rfl rfl
  have f_109 : ∀ u_ v_ : Nat, (u_ ≠ 229 + 56 ∧ (u_ ≠ 229 ∨ v_ ≠ 78)) → M_104 u_ v_ = M_96 u_ v_ := fun u v h => p_106.1 u v h.1 h.2
  have f_108 : M_104 229 78 = (900 * k + 141) + 12 := p_106.2.2.2
  have f_108g : M_104 229 79 = M_96 229 79 := f_109 229 79 (by omega)
  clear p_106
  refine g_aload_n (n := 119) hx 0 (dq tX10_carriesAll 60 rfl) rfl rfl ?_
  refine g_aload_n (n := 120) hx 0 (dq tX10_carriesAll 61 rfl) rfl rfl ?_
  refine g_getR (n := 123) hx glX10_49 (sX10_14 (by decide)) (dq tX10_carriesAll 62 rfl) rfl ?_
  refine g_callVv (n := 126) (As := [aR Γ (229 + 14)]) (rest := []) hx (ctX10_carryT Γ M_104 (229 + 14) 12 (900 * k + 153) (akI (aX10_14 (b := 229) (by decide))) (by decide) (by omega) (by omega) (by omega) (by omega) (by decide) (by decide)) mlX10_647 (obX10 (by decide)) (dq tX10_carriesAll 63 rfl) rfl (Nat.le_of_ble_eq_true rfl) (Nat.le_of_ble_eq_true rfl) (Nat.le_of_ble_eq_true rfl) rfl (fun M_112 p_114 => ?_)
  have T_118 : Tk M_112 M k (229 + 14) := Tk.go T_110 p_114 (by decide) rfl (by decide) hkl rfl rfl
  have f_117 : ∀ u_ v_ : Nat, (u_ ≠ 229 + 56 ∧ (u_ ≠ 229 ∨ v_ ≠ 78)) → M_112 u_ v_ = M_104 u_ v_ := fun u v h => p_114.1 u v h.1 h.2
  have f_116 : M_112 229 78 = (900 * k + 153) + 12 := p_114.2.2.2
  have f_116g : M_112 229 79 = M_104 229 79 := f_117 229 79 (by omega)
  clear p_114
  refine g_aload_n (n := 127) hx 0 (dq tX10_carriesAll 64 rfl) rfl rfl ?_
  refine g_aload_n (n := 128) hx 0 (dq tX10_carriesAll 65 rfl) rfl rfl ?_
  refine g_getR (n := 131) hx glX10_52 (sX10_15 (by decide)) (dq tX10_carriesAll 66 rfl) rfl ?_
  refine g_callVv (n := 134) (As := [aR Γ (229 + 15)]) (rest := []) hx (ctX10_carryT Γ M_112 (229 + 15) 12 (900 * k + 165) (akI (aX10_15 (b := 229) (by decide))) (by decide) (by omega) (by omega) (by omega) (by omega) (by decide) (by decide)) mlX10_647 (obX10 (by decide)) (dq tX10_carriesAll 67 rfl) rfl (Nat.le_of_ble_eq_true rfl) (Nat.le_of_ble_eq_true rfl) (Nat.le_of_ble_eq_true rfl) rfl (fun M_120 p_122 => ?_)
  have T_126 : Tk M_120 M k (229 + 15) := Tk.go T_118 p_122 (by decide) rfl (by decide) hkl rfl rfl
  have f_125 : ∀ u_ v_ : Nat, (u_ ≠ 229 + 56 ∧ (u_ ≠ 229 ∨ v_ ≠ 78)) → M_120 u_ v_ = M_112 u_ v_ := fun u v h => p_122.1 u v h.1 h.2
  have f_124 : M_120 229 78 = (900 * k + 165) + 12 := p_122.2.2.2
  have f_124g : M_120 229 79 = M_112 229 79 := f_125 229 79 (by omega)
  clear p_122
  refine g_aload_n (n := 135) hx 0 (dq tX10_carriesAll 68 rfl) rfl rfl ?_
  refine g_aload_n (n := 136) hx 0 (dq tX10_carriesAll 69 rfl) rfl rfl ?_
  refine g_getR (n := 139) hx glX10_55 (sX10_16 (by decide)) (dq tX10_carriesAll 70 rfl) rfl ?_
  refine g_callVv (n := 142) (As := [aR Γ (229 + 16)]) (rest := []) hx (ctX10_carryT Γ M_120 (229 + 16) 12 (900 * k + 177) (akI (aX10_16 (b := 229) (by decide))) (by decide) (by omega) (by omega) (by omega) (by omega) (by decide) (by decide)) mlX10_647 (obX10 (by decide)) (dq tX10_carriesAll 71 rfl) rfl (Nat.le_of_ble_eq_true rfl) (Nat.le_of_ble_eq_true rfl) (Nat.le_of_ble_eq_true rfl) rfl (fun M_128 p_130 => ?_)
  have T_134 : Tk M_128 M k (229 + 16) := Tk.go T_126 p_130 (by decide) rfl (by decide) hkl rfl rfl
  have f_133 : ∀ u_ v_ : Nat, (u_ ≠ 229 + 56 ∧ (u_ ≠ 229 ∨ v_ ≠ 78)) → M_128 u_ v_ = M_120 u_ v_ := fun u v h => p_130.1 u v h.1 h.2
  have f_132 : M_128 229 78 = (900 * k + 177) + 12 := p_130.2.2.2
  have f_132g : M_128 229 79 = M_120 229 79 := f_133 229 79 (by omega)
  clear p_130
  refine g_aload_n (n := 143) hx 0 (dq tX10_carriesAll 72 rfl) rfl rfl ?_
  refine g_aload_n (n := 144) hx 0 (dq tX10_carriesAll 73 rfl) rfl rfl ?_
  refine g_getR (n := 147) hx glX10_58 (sX10_17 (by decide)) (dq tX10_carriesAll 74 rfl) rfl ?_
  refine g_callVv (n := 150) (As := [aR Γ (229 + 17)]) (rest := []) hx (ctX10_carryT Γ M_128 (229 + 17) 12 (900 * k + 189) (akI (aX10_17 (b := 229) (by decide))) (by decide) (by omega) (by omega) (by omega) (by omega) (by decide) (by decide)) mlX10_647 (obX10 (by decide)) (dq tX10_carriesAll 75 rfl) rfl (Nat.le_of_ble_eq_true rfl) (Nat.le_of_ble_eq_true rfl) (Nat.le_of_ble_eq_true rfl) rfl (fun M_136 p_138 => ?_)
  have T_142 : Tk M_136 M k (229 + 17) := Tk.go T_134 p_138 (by decide) rfl (by decide) hkl rfl rfl
  have f_141 : ∀ u_ v_ : Nat, (u_ ≠ 229 + 56 ∧ (u_ ≠ 229 ∨ v_ ≠ 78)) → M_136 u_ v_ = M_128 u_ v_ := fun u v h => p_138.1 u v h.1 h.2
  have f_140 : M_136 229 78 = (900 * k + 189) + 12 := p_138.2.2.2
  have f_140g : M_136 229 79 = M_128 229 79 := f_141 229 79 (by omega)
  clear p_138
  refine g_aload_n (n := 151) hx 0 (dq tX10_carriesAll 76 rfl) rfl rfl ?_
  refine g_aload_n (n := 152) hx 0 (dq tX10_carriesAll 77 rfl) rfl rfl ?_
  refine g_getR (n := 155) hx glX10_61 (sX10_18 (by decide)) (dq tX10_carriesAll 78 rfl) rfl ?_
  refine g_callVv (n := 158) (As := [aR Γ (229 + 18)]) (rest := []) hx (ctX10_carryT Γ M_136 (229 + 18) 72 (900 * k + 201) (akI (aX10_18 (b := 229) (by decide))) (by decide) (by omega) (by omega) (by omega) (by omega) (by decide) (by decide)) mlX10_647 (obX10 (by decide)) (dq tX10_carriesAll 79 rfl) rfl (Nat.le_of_ble_eq_true rfl) (Nat.le_of_ble_eq_true rfl) (Nat.le_of_ble_eq_true rfl) rfl (fun M_144 p_146 => ?_)
  have T_150 : Tk M_144 M k (229 + 18) := Tk.go T_142 p_146 (by decide) rfl (by decide) hkl rfl rfl
  have f_149 : ∀ u_ v_ : Nat, (u_ ≠ 229 + 56 ∧ (u_ ≠ 229 ∨ v_ ≠ 78)) → M_144 u_ v_ = M_136 u_ v_ := fun u v h => p_146.1 u v h.1 h.2
  have f_148 : M_144 229 78 = (900 * k + 201) + 72 := p_146.2.2.2
  have f_148g : M_144 229 79 = M_136 229 79 := f_149 229 79 (by omega)
  clear p_146
  refine g_aload_n (n := 159) hx 0 (dq tX10_carriesAll 80 rfl) rfl rfl ?_
  refine g_aload_n (n := 160) hx 0 (dq tX10_carriesAll 81 rfl) rfl rfl ?_
  refine g_getR (n := 163) hx glX10_64 (sX10_19 (by decide)) (dq tX10_carriesAll 82 rfl) rfl ?_
  refine g_callVv (n := 166) (As := [aR Γ (229 + 19)]) (rest := []) hx (ctX10_carryT Γ M_144 (229 + 19) 20 (900 * k + 273) (akI (aX10_19 (b := 229) (by decide))) (by decide) (by omega) (by omega) (by omega) (by omega) (by decide) (by decide)) mlX10_647 (obX10 (by decide)) (dq tX10_carriesAll 83 rfl) rfl (Nat.le_of_ble_eq_true rfl) (Nat.le_of_ble_eq_true rfl) (Nat.le_of_ble_eq_true rfl) rfl (fun M_152 p_154 => ?_)
  have T_158 : Tk M_152 M k (229 + 19) := Tk.go T_150 p_154 (by decide) rfl (by decide) hkl rfl rfl
  have f_157 : ∀ u_ v_ : Nat, (u_ ≠ 229 + 56 ∧ (u_ ≠ 229 ∨ v_ ≠ 78)) → M_152 u_ v_ = M_144 u_ v_ := fun u v h => p_154.1 u v h.1 h.2
  have f_156 : M_152 229 78 = (900 * k + 273) + 20 := p_154.2.2.2
  have f_156g : M_152 229 79 = M_144 229 79 := f_157 229 79 (by omega)
  clear p_154
  refine g_aload_n (n := 167) hx 0 (dq tX10_carriesAll 84 rfl) rfl rfl ?_
  refine g_aload_n (n := 168) hx 0 (dq tX10_carriesAll 85 rfl) rfl rfl ?_
  refine g_getR (n := 171) hx glX10_67 (sX10_20 (by decide)) (dq tX10_carriesAll 86 rfl) rfl ?_
  refine g_callVv (n := 174) (As := [aR Γ (229 + 20)]) (rest := []) hx (ctX10_carryT Γ M_152 (229 + 20) 20 (900 * k + 293) (akI (aX10_20 (b := 229) (by decide))) (by decide) (by omega) (by omega) (by omega) (by omega) (by decide) (by decide)) mlX10_647 (obX10 (by decide)) (dq tX10_carriesAll 87 rfl) rfl (Nat.le_of_ble_eq_true rfl) (Nat.le_of_ble_eq_true rfl) (Nat.le_of_ble_eq_true rfl) rfl (fun M_160 p_162 => ?_)
  have T_166 : Tk M_160 M k (229 + 20) := Tk.go T_158 p_162 (by decide) rfl (by decide) hkl rfl rfl
  have f_165 : ∀ u_ v_ : Nat, (u_ ≠ 229 + 56 ∧ (u_ ≠ 229 ∨ v_ ≠ 78)) → M_160 u_ v_ = M_152 u_ v_ := fun u v h => p_162.1 u v h.1 h.2
  have f_164 : M_160 229 78 = (900 * k + 293) + 20 := p_162.2.2.2
  have f_164g : M_160 229 79 = M_152 229 79 := f_165 229 79 (by omega)
  clear p_162
  refine g_aload_n (n := 175) hx 0 (dq tX10_carriesAll 88 rfl) rfl rfl ?_
  refine g_aload_n (n := 176) hx 0 (dq tX10_carriesAll 89 rfl) rfl rfl ?_
  refine g_getR (n := 179) hx glX10_70 (sX10_21 (by decide)) (dq tX10_carriesAll 90 rfl) rfl ?_
  refine g_callVv (n := 182) (As := [aR Γ (229 + 21)]) (rest := []) hx (ctX10_carryT Γ M_160 (229 + 21) 20 (900 * k + 313) (akI (aX10_21 (b := 229) (by decide))) (by decide) (by omega) (by omega) (by omega) (by omega) (by decide) (by decide)) mlX10_647 (obX10 (by decide)) (dq tX10_carriesAll 91 rfl) rfl (Nat.le_of_ble_eq_true rfl) (Nat.le_of_ble_eq_true rfl) (Nat.le_of_ble_eq_true rfl) rfl (fun M_168 p_170 => ?_)
  have T_174 : Tk M_168 M k (229 + 21) := Tk.go T_166 p_170 (by decide) rfl (by decide) hkl rfl rfl
  have f_173 : ∀ u_ v_ : Nat, (u_ ≠ 229 + 56 ∧ (u_ ≠ 229 ∨ v_ ≠ 78)) → M_168 u_ v_ = M_160 u_ v_ := fun u v h => p_170.1 u v h.1 h.2
  have f_172 : M_168 229 78 = (900 * k + 313) + 20 := p_170.2.2.2
  have f_172g : M_168 229 79 = M_160 229 79 := f_173 229 79 (by omega)
  clear p_170
  refine g_aload_n (n := 183) hx 0 (dq tX10_carriesAll 92 rfl) rfl rfl ?_
  refine g_aload_n (n := 184) hx 0 (dq tX10_carriesAll 93 rfl) rfl rfl ?_
  refine g_getR (n := 187) hx glX10_73 (sX10_22 (by decide)) (dq tX10_carriesAll 94 rfl) rfl ?_
  refine g_callVv (n := 190) (As := [aR Γ (229 + 22)]) (rest := []) hx (ctX10_carryT Γ M_168 (229 + 22) 20 (900 * k + 333) (akI (aX10_22 (b := 229) (by decide))) (by decide) (by omega) (by omega) (by omega) (by omega) (by decide) (by decide)) mlX10_647 (obX10 (by decide)) (dq tX10_carriesAll 95 rfl) rfl (Nat.le_of_ble_eq_true rfl) (Nat.le_of_ble_eq_true rfl) (Nat.le_of_ble_eq_true rfl) rfl (fun M_176 p_178 => ?_)
  have T_182 : Tk M_176 M k (229 + 22) := Tk.go T_174 p_178 (by decide) rfl (by decide) hkl rfl rfl
  have f_181 : ∀ u_ v_ : Nat, (u_ ≠ 229 + 56 ∧ (u_ ≠ 229 ∨ v_ ≠ 78)) → M_176 u_ v_ = M_168 u_ v_ := fun u v h => p_178.1 u v h.1 h.2
  have f_180 : M_176 229 78 = (900 * k + 333) + 20 := p_178.2.2.2
  have f_180g : M_176 229 79 = M_168 229 79 := f_181 229 79 (by omega)
  clear p_178
  refine g_aload_n (n := 191) hx 0 (dq tX10_carriesAll 96 rfl) rfl rfl ?_
  refine g_aload_n (n := 192) hx 0 (dq tX10_carriesAll 97 rfl) rfl rfl ?_
  refine g_getR (n := 195) hx glX10_76 (sX10_23 (by decide)) (dq tX10_carriesAll 98 rfl) rfl ?_
  refine g_callVv (n := 198) (As := [aR Γ (229 + 23)]) (rest := []) hx (ctX10_carryT Γ M_176 (229 + 23) 20 (900 * k + 353) (akI (aX10_23 (b := 229) (by decide))) (by decide) (by omega) (by omega) (by omega) (by omega) (by decide) (by decide)) mlX10_647 (obX10 (by decide)) (dq tX10_carriesAll 99 rfl) rfl (Nat.le_of_ble_eq_true rfl) (Nat.le_of_ble_eq_true rfl) (Nat.le_of_ble_eq_true rfl) rfl (fun M_184 p_186 => ?_)
  have T_190 : Tk M_184 M k (229 + 23) := Tk.go T_182 p_186 (by decide) rfl (by decide) hkl rfl rfl
  have f_189 : ∀ u_ v_ : Nat, (u_ ≠ 229 + 56 ∧ (u_ ≠ 229 ∨ v_ ≠ 78)) → M_184 u_ v_ = M_176 u_ v_ := fun u v h => p_186.1 u v h.1 h.2
  have f_188 : M_184 229 78 = (900 * k + 353) + 20 := p_186.2.2.2
  have f_188g : M_184 229 79 = M_176 229 79 := f_189 229 79 (by omega)
  clear p_186
  refine g_aload_n (n := 199) hx 0 (dq tX10_carriesAll 100 rfl) rfl rfl ?_
  refine g_aload_n (n := 200) hx 0 (dq tX10_carriesAll 101 rfl) rfl rfl ?_
  refine g_getR (n := 203) hx glX10_79 (sX10_24 (by decide)) (dq tX10_carriesAll 102 rfl) rfl ?_
  refine g_callVv (n := 206) (As := [aR Γ (229 + 24)]) (rest := []) hx (ctX10_carryT Γ M_184 (229 + 24) 12 (900 * k + 373) (akI (aX10_24 (b := 229) (by decide))) (by decide) (by omega) (by omega) (by omega) (by omega) (by decide) (by decide)) mlX10_647 (obX10 (by decide)) (dq tX10_carriesAll 103 rfl) rfl (Nat.le_of_ble_eq_true rfl) (Nat.le_of_ble_eq_true rfl) (Nat.le_of_ble_eq_true rfl) rfl (fun M_192 p_194 => ?_)
  have T_198 : Tk M_192 M k (229 + 24) := Tk.go T_190 p_194 (by decide) rfl (by decide) hkl rfl rfl
  have f_197 : ∀ u_ v_ : Nat, (u_ ≠ 229 + 56 ∧ (u_ ≠ 229 ∨ v_ ≠ 78)) → M_192 u_ v_ = M_184 u_ v_ := fun u v h => p_194.1 u v h.1 h.2
  have f_196 : M_192 229 78 = (900 * k + 373) + 12 := p_194.2.2.2
  have f_196g : M_192 229 79 = M_184 229 79 := f_197 229 79 (by omega)
  clear p_194
  refine g_aload_n (n := 207) hx 0 (dq tX10_carriesAll 104 rfl) rfl rfl ?_
  refine g_aload_n (n := 208) hx 0 (dq tX10_carriesAll 105 rfl) rfl rfl ?_
  refine g_getR (n := 211) hx glX10_82 (sX10_25 (by decide)) (dq tX10_carriesAll 106 rfl) rfl ?_
  refine g_callVv (n := 214) (As := [aR Γ (229 + 25)]) (rest := []) hx (ctX10_carryT Γ M_192 (229 + 25) 12 (900 * k + 385) (akI (aX10_25 (b := 229) (by decide))) (by decide) (by omega) (by omega) (by omega) (by omega) (by decide) (by decide)) mlX10_647 (obX10 (by decide)) (dq tX10_carriesAll 107 rfl) rfl (Nat.le_of_ble_eq_true rfl) (Nat.le_of_ble_eq_true rfl) (Nat.le_of_ble_eq_true rfl) rfl (fun M_200 p_202 => ?_)
  have T_206 : Tk M_200 M k (229 + 25) := Tk.go T_198 p_202 (by decide) rfl (by decide) hkl rfl rfl
  have f_205 : ∀ u_ v_ : Nat, (u_ ≠ 229 + 56 ∧ (u_ ≠ 229 ∨ v_ ≠ 78)) → M_200 u_ v_ = M_192 u_ v_ := fun u v h => p_202.1 u v h.1 h.2
  have f_204 : M_200 229 78 = (900 * k + 385) + 12 := p_202.2.2.2
  have f_204g : M_200 229 79 = M_192 229 79 := f_205 229 79 (by omega)
  clear p_202
  refine g_aload_n (n := 215) hx 0 (dq tX10_carriesAll 108 rfl) rfl rfl ?_
  refine g_aload_n (n := 216) hx 0 (dq tX10_carriesAll 109 rfl) rfl rfl ?_
  refine g_getR (n := 219) hx glX10_85 (sX10_26 (by decide)) (dq tX10_carriesAll 110 rfl) rfl ?_
  refine g_callVv (n := 222) (As := [aR Γ (229 + 26)]) (rest := []) hx (ctX10_carryT Γ M_200 (229 + 26) 12 (900 * k + 397) (akI (aX10_26 (b := 229) (by decide))) (by decide) (by omega) (by omega) (by omega) (by omega) (by decide) (by decide)) mlX10_647 (obX10 (by decide)) (dq tX10_carriesAll 111 rfl) rfl (Nat.le_of_ble_eq_true rfl) (Nat.le_of_ble_eq_true rfl) (Nat.le_of_ble_eq_true rfl) rfl (fun M_208 p_210 => ?_)
  have T_214 : Tk M_208 M k (229 + 26) := Tk.go T_206 p_210 (by decide) rfl (by decide) hkl rfl rfl
  have f_213 : ∀ u_ v_ : Nat, (u_ ≠ 229 + 56 ∧ (u_ ≠ 229 ∨ v_ ≠ 78)) → M_208 u_ v_ = M_200 u_ v_ := fun u v h => p_210.1 u v h.1 h.2
  have f_212 : M_208 229 78 = (900 * k + 397) + 12 := p_210.2.2.2
  have f_212g : M_208 229 79 = M_200 229 79 := f_213 229 79 (by omega)
  clear p_210
  refine g_aload_n (n := 223) hx 0 (dq tX10_carriesAll 112 rfl) rfl rfl ?_
  refine g_aload_n (n := 224) hx 0 (dq tX10_carriesAll 113 rfl) rfl rfl ?_
  refine g_getR (n := 227) hx glX10_88 (sX10_27 (by decide)) (dq tX10_carriesAll 114 rfl) rfl ?_
  refine g_callVv (n := 230) (As := [aR Γ (229 + 27)]) (rest := []) hx (ctX10_carryT Γ M_208 (229 + 27) 12 (900 * k + 409) (akI (aX10_27 (b := 229) (by decide))) (by decide) (by omega) (by omega) (by omega) (by omega) (by decide) (by decide)) mlX10_647 (obX10 (by decide)) (dq tX10_carriesAll 115 rfl) rfl (Nat.le_of_ble_eq_true rfl) (Nat.le_of_ble_eq_true rfl) (Nat.le_of_ble_eq_true rfl) rfl (fun M_216 p_218 => ?_)
  have T_222 : Tk M_216 M k (229 + 27) := Tk.go T_214 p_218 (by decide) rfl (by decide) hkl rfl rfl
  have f_221 : ∀ u_ v_ : Nat, (u_ ≠ 229 + 56 ∧ (u_ ≠ 229 ∨ v_ ≠ 78)) → M_216 u_ v_ = M_208 u_ v_ := fun u v h => p_218.1 u v h.1 h.2
  have f_220 : M_216 229 78 = (900 * k + 409) + 12 := p_218.2.2.2
  have f_220g : M_216 229 79 = M_208 229 79 := f_221 229 79 (by omega)
  clear p_218
  refine g_aload_n (n := 231) hx 0 (dq tX10_carriesAll 116 rfl) rfl rfl ?_
  refine g_aload_n (n := 232) hx 0 (dq tX10_carriesAll 117 rfl) rfl rfl ?_
  refine g_getR (n := 235) hx glX10_91 (sX10_28 (by decide)) (dq tX10_carriesAll 118 rfl) rfl ?_
  refine g_callVv (n := 238) (As := [aR Γ (229 + 28)]) (rest := []) hx (ctX10_carryT Γ M_216 (229 + 28) 360 (900 * k + 421) (akI (aX10_28 (b := 229) (by decide))) (by decide) (by omega) (by omega) (by omega) (by omega) (by decide) (by decide)) mlX10_647 (obX10 (by decide)) (dq tX10_carriesAll 119 rfl) rfl (Nat.le_of_ble_eq_true rfl) (Nat.le_of_ble_eq_true rfl) (Nat.le_of_ble_eq_true rfl) rfl (fun M_224 p_226 => ?_)
  have T_230 : Tk M_224 M k (229 + 28) := Tk.go T_222 p_226 (by decide) rfl (by decide) hkl rfl rfl
  have f_229 : ∀ u_ v_ : Nat, (u_ ≠ 229 + 56 ∧ (u_ ≠ 229 ∨ v_ ≠ 78)) → M_224 u_ v_ = M_216 u_ v_ := fun u v h => p_226.1 u v h.1 h.2
  have f_228 : M_224 229 78 = (900 * k + 421) + 360 := p_226.2.2.2
  have f_228g : M_224 229 79 = M_216 229 79 := f_229 229 79 (by omega)
  clear p_226
  exact g_vret hx hr (dq tX10_carriesAll 120 rfl) ⟨(fun u_ v_ huv_ => ((((((((((((((((((((((((((((((f_229 u_ v_ (by omega)).trans (f_221 u_ v_ (by omega))).trans (f_213 u_ v_ (by omega))).trans (f_205 u_ v_ (by omega))).trans (f_197 u_ v_ (by omega))).trans (f_189 u_ v_ (by omega))).trans (f_181 u_ v_ (by omega))).trans (f_173 u_ v_ (by omega))).trans (f_165 u_ v_ (by omega))).trans (f_157 u_ v_ (by omega))).trans (f_149 u_ v_ (by omega))).trans (f_141 u_ v_ (by omega))).trans (f_133 u_ v_ (by omega))).trans (f_125 u_ v_ (by omega))).trans (f_117 u_ v_ (by omega))).trans (f_109 u_ v_ (by omega))).trans (f_101 u_ v_ (by omega))).trans (f_93 u_ v_ (by omega))).trans (f_85 u_ v_ (by omega))).trans (f_77 u_ v_ (by omega))).trans (f_69 u_ v_ (by omega))).trans (f_61 u_ v_ (by omega))).trans (f_53 u_ v_ (by omega))).trans (f_45 u_ v_ (by omega))).trans (f_37 u_ v_ (by omega))).trans (f_29 u_ v_ (by omega))).trans (f_21 u_ v_ (by omega))).trans (f_13 u_ v_ (by omega))).trans (m_4 u_ v_ (by omega))).trans (m_2 u_ v_ (by omega)))), (fun c j h1 h2 h3 => T_230.1 c j h1 (by omega) h3), (fun j hj => T_230.2.2 j hj)⟩

abbrev qctX10_carries1 (M : zM) (k : Int) (back_ : Int) (M' : zM) : Prop := (∀ u_ v_, (u_ < 229 + 1 ∨ 229 + 29 ≤ u_) ∧ (u_ ≠ 229 ∨ v_ ≠ 78) ∧ (u_ ≠ 229 ∨ v_ ≠ 79) → M' u_ v_ = M u_ v_) ∧ (∀ c j : Nat, 230 ≤ c → c ≤ 257 → j < zln c → M' c j = M (229 + 56) (900 * k.toNat + zof c + j))
set_option maxHeartbeats 4000000 in
set_option maxRecDepth 100000 in
theorem ctX10_carries1 (Γ : Gam) (M : zM) (k : Int) (hkl : 0 ≤ k) (hku : k ≤ 4) (back_ : Int) (hback_l : 1 ≤ back_) (hback_u : back_ ≤ 1) (ex0 : BlR M k.toNat) : CtV Γ yX10_carriesAll cX10_carriesAll 3 none 1 22 [aR Γ 229, vI k, vI back_] M (qctX10_carries1 M k back_) := by
  refine met_v (by decide) (Nat.le_of_ble_eq_true rfl) (fun x hx hr => ?_)
  show G Γ x 3 (QV Γ x (qctX10_carries1 M k back_)) M 0 [(0, aR Γ 229), (1, vI k), (2, vI back_)] []
  refine g_aload_n (n := 1) hx 0 (dq tX10_carriesAll 0 rfl) rfl rfl ?_
  refine g_sipush (n := 4) hx (dq tX10_carriesAll 1 rfl) rfl (by decide) ?_
  refine g_iload_n (n := 5) hx 1 (dq tX10_carriesAll 2 rfl) rfl rfl ?_
  refine g_imul (n := 6) hx (dq tX10_carriesAll 3 rfl) rfl ?_
  refine g_putI (n := 9) hx plX10_644 (sX10_78 (by decide)) (dq tX10_carriesAll 4 rfl) rfl (by omega) (by omega) (fun M_1 m_2e m_2 => ?_)
  refine g_aload_n (n := 10) hx 0 (dq tX10_carriesAll 5 rfl) rfl rfl ?_
  refine g_iload_n (n := 11) hx 2 (dq tX10_carriesAll 6 rfl) rfl rfl ?_
  refine g_putZ (n := 14) hx plX10_641 (sX10_79 (by decide)) (dq tX10_carriesAll 7 rfl) rfl (by omega) (by omega) (by omega) (fun M_3 m_4e m_4 => ?_)
  refine g_aload_n (n := 15) hx 0 (dq tX10_carriesAll 8 rfl) rfl rfl ?_
  refine g_aload_n (n := 16) hx 0 (dq tX10_carriesAll 9 rfl) rfl rfl ?_
  refine g_getR (n := 19) hx glX10_9 (sX10_1 (by decide)) (dq tX10_carriesAll 10 rfl) rfl ?_
  have e_5 : M_3 229 78 = M_1 229 78 := (m_4 229 78 (by omega))
  have T_6 : Gk M_3 M k 229 := Gk.nil (fun j => ((m_4 (229 + 56) j (by omega)).trans (m_2 (229 + 56) j (by omega))))
  refine g_callVv (n := 22) (As := [aR Γ (229 + 1)]) (rest := []) hx (ctX10_carryG Γ M_3 (229 + 1) 17 (900 * k + 0) (aX10_1 (b := 229) (by decide)) (by decide) (by omega) (by omega) (by omega) (by omega) (by decide) (by decide) (fun j hj => by
      have q := ex0 (229 + 1) j (by decide) (by decide) hj
      rw [show (900 * k + 0).toNat + j = 900 * k.toNat + 0 + j by omega, T_6.2]; exact q)) mlX10_647 (obX10 (by decide)) (dq tX10_carriesAll 11 rfl) rfl (Nat.le_of_ble_eq_true rfl) (Nat.le_of_ble_eq_true rfl) (Nat.le_of_ble_eq_true rfl) rfl (fun M_8 p_10 => ?_)
  have T_14 : Gk M_8 M k (229 + 1) := Gk.go T_6 p_10 (by decide) rfl (by decide) hkl rfl rfl
  have f_13 : ∀ u_ v_ : Nat, (u_ ≠ 229 + 1 ∧ (u_ ≠ 229 ∨ v_ ≠ 78)) → M_8 u_ v_ = M_3 u_ v_ := fun u v h => p_10.1 u v h.1 h.2
  have f_12 : M_8 229 78 = (900 * k + 0) + 17 := p_10.2.2
  have f_12g : M_8 229 79 = M_3 229 79 := f_13 229 79 (by omega)
  clear p_10
  refine g_aload_n (n := 23) hx 0 (dq tX10_carriesAll 12 rfl) rfl rfl ?_
  refine g_aload_n (n := 24) hx 0 (dq tX10_carriesAll 13 rfl) rfl rfl ?_
  refine g_getR (n := 27) hx glX10_13 (sX10_2 (by decide)) (dq tX10_carriesAll 14 rfl) rfl ?_
  refine g_callVv (n := 30) (As := [aR Γ (229 + 2)]) (rest := []) hx (ctX10_carryG Γ M_8 (229 + 2) 9 (900 * k + 17) (akI (aX10_2 (b := 229) (by decide))) (by decide) (by omega) (by omega) (by omega) (by omega) (by decide) (by decide) (fun j hj => by
      have q := ex0 (229 + 2) j (by decide) (by decide) hj
      rw [show (900 * k + 17).toNat + j = 900 * k.toNat + 17 + j by omega, T_14.2]; exact q)) mlX10_647 (obX10 (by decide)) (dq tX10_carriesAll 15 rfl) rfl (Nat.le_of_ble_eq_true rfl) (Nat.le_of_ble_eq_true rfl) (Nat.le_of_ble_eq_true rfl) rfl (fun M_16 p_18 => ?_)
  have T_22 : Gk M_16 M k (229 + 2) := Gk.go T_14 p_18 (by decide) rfl (by decide) hkl rfl rfl
  have f_21 : ∀ u_ v_ : Nat, (u_ ≠ 229 + 2 ∧ (u_ ≠ 229 ∨ v_ ≠ 78)) → M_16 u_ v_ = M_8 u_ v_ := fun u v h => p_18.1 u v h.1 h.2
  have f_20 : M_16 229 78 = (900 * k + 17) + 9 := p_18.2.2
  have f_20g : M_16 229 79 = M_8 229 79 := f_21 229 79 (by omega)
  clear p_18
  refine g_aload_n (n := 31) hx 0 (dq tX10_carriesAll 16 rfl) rfl rfl ?_
  refine g_aload_n (n := 32) hx 0 (dq tX10_carriesAll 17 rfl) rfl rfl ?_
  refine g_getR (n := 35) hx glX10_16 (sX10_3 (by decide)) (dq tX10_carriesAll 18 rfl) rfl ?_
  refine g_callVv (n := 38) (As := [aR Γ (229 + 3)]) (rest := []) hx (ctX10_carryG Γ M_16 (229 + 3) 9 (900 * k + 26) (akI (aX10_3 (b := 229) (by decide))) (by decide) (by omega) (by omega) (by omega) (by omega) (by decide) (by decide) (fun j hj => by
      have q := ex0 (229 + 3) j (by decide) (by decide) hj
      rw [show (900 * k + 26).toNat + j = 900 * k.toNat + 26 + j by omega, T_22.2]; exact q)) mlX10_647 (obX10 (by decide)) (dq tX10_carriesAll 19 rfl) rfl (Nat.le_of_ble_eq_true rfl) (Nat.le_of_ble_eq_true rfl) (Nat.le_of_ble_eq_true rfl) rfl (fun M_24 p_26 => ?_)
  have T_30 : Gk M_24 M k (229 + 3) := Gk.go T_22 p_26 (by decide) rfl (by decide) hkl rfl rfl
  have f_29 : ∀ u_ v_ : Nat, (u_ ≠ 229 + 3 ∧ (u_ ≠ 229 ∨ v_ ≠ 78)) → M_24 u_ v_ = M_16 u_ v_ := fun u v h => p_26.1 u v h.1 h.2
  have f_28 : M_24 229 78 = (900 * k + 26) + 9 := p_26.2.2
  have f_28g : M_24 229 79 = M_16 229 79 := f_29 229 79 (by omega)
  clear p_26
  refine g_aload_n (n := 39) hx 0 (dq tX10_carriesAll 20 rfl) rfl rfl ?_
  refine g_aload_n (n := 40) hx 0 (dq tX10_carriesAll 21 rfl) rfl rfl ?_
  refine g_getR (n := 43) hx glX10_19 (sX10_4 (by decide)) (dq tX10_carriesAll 22 rfl) rfl ?_
  refine g_callVv (n := 46) (As := [aR Γ (229 + 4)]) (rest := []) hx (ctX10_carryG Γ M_24 (229 + 4) 4 (900 * k + 35) (akI (aX10_4 (b := 229) (by decide))) (by decide) (by omega) (by omega) (by omega) (by omega) (by decide) (by decide) (fun j hj => by
      have q := ex0 (229 + 4) j (by decide) (by decide) hj
      rw [show (900 * k + 35).toNat + j = 900 * k.toNat + 35 + j by omega, T_30.2]; exact q)) mlX10_647 (obX10 (by decide)) (dq tX10_carriesAll 23 rfl) rfl (Nat.le_of_ble_eq_true rfl) (Nat.le_of_ble_eq_true rfl) (Nat.le_of_ble_eq_true rfl) rfl (fun M_32 p_34 => ?_)
  have T_38 : Gk M_32 M k (229 + 4) := Gk.go T_30 p_34 (by decide) rfl (by decide) hkl rfl rfl
  have f_37 : ∀ u_ v_ : Nat, (u_ ≠ 229 + 4 ∧ (u_ ≠ 229 ∨ v_ ≠ 78)) → M_32 u_ v_ = M_24 u_ v_ := fun u v h => p_34.1 u v h.1 h.2
  have f_36 : M_32 229 78 = (900 * k + 35) + 4 := p_34.2.2
  have f_36g : M_32 229 79 = M_24 229 79 := f_37 229 79 (by omega)
  clear p_34
  refine g_aload_n (n := 47) hx 0 (dq tX10_carriesAll 24 rfl) rfl rfl ?_
  refine g_aload_n (n := 48) hx 0 (dq tX10_carriesAll 25 rfl) rfl rfl ?_
  refine g_getR (n := 51) hx glX10_22 (sX10_5 (by decide)) (dq tX10_carriesAll 26 rfl) rfl ?_
  refine g_callVv (n := 54) (As := [aR Γ (229 + 5)]) (rest := []) hx (ctX10_carryG Γ M_32 (229 + 5) 6 (900 * k + 39) (akI (aX10_5 (b := 229) (by decide))) (by decide) (by omega) (by omega) (by omega) (by omega) (by decide) (by decide) (fun j hj => by
      have q := ex0 (229 + 5) j (by decide) (by decide) hj
      rw [show (900 * k + 39).toNat + j = 900 * k.toNat + 39 + j by omega, T_38.2]; exact q)) mlX10_647 (obX10 (by decide)) (dq tX10_carriesAll 27 rfl) rfl (Nat.le_of_ble_eq_true rfl) (Nat.le_of_ble_eq_true rfl) (Nat.le_of_ble_eq_true rfl) rfl (fun M_40 p_42 => ?_)
  have T_46 : Gk M_40 M k (229 + 5) := Gk.go T_38 p_42 (by decide) rfl (by decide) hkl rfl rfl
  have f_45 : ∀ u_ v_ : Nat, (u_ ≠ 229 + 5 ∧ (u_ ≠ 229 ∨ v_ ≠ 78)) → M_40 u_ v_ = M_32 u_ v_ := fun u v h => p_42.1 u v h.1 h.2
  have f_44 : M_40 229 78 = (900 * k + 39) + 6 := p_42.2.2
  have f_44g : M_40 229 79 = M_32 229 79 := f_45 229 79 (by omega)
  clear p_42
  refine g_aload_n (n := 55) hx 0 (dq tX10_carriesAll 28 rfl) rfl rfl ?_
  refine g_aload_n (n := 56) hx 0 (dq tX10_carriesAll 29 rfl) rfl rfl ?_
  refine g_getR (n := 59) hx glX10_25 (sX10_6 (by decide)) (dq tX10_carriesAll 30 rfl) rfl ?_
  refine g_callVv (n := 62) (As := [aR Γ (229 + 6)]) (rest := []) hx (ctX10_carryG Γ M_40 (229 + 6) 6 (900 * k + 45) (akI (aX10_6 (b := 229) (by decide))) (by decide) (by omega) (by omega) (by omega) (by omega) (by decide) (by decide) (fun j hj => by
      have q := ex0 (229 + 6) j (by decide) (by decide) hj
      rw [show (900 * k + 45).toNat + j = 900 * k.toNat + 45 + j by omega, T_46.2]; exact q)) mlX10_647 (obX10 (by decide)) (dq tX10_carriesAll 31 rfl) rfl (Nat.le_of_ble_eq_true rfl) (Nat.le_of_ble_eq_true rfl) (Nat.le_of_ble_eq_true rfl) rfl (fun M_48 p_50 => ?_)
  have T_54 : Gk M_48 M k (229 + 6) := Gk.go T_46 p_50 (by decide) rfl (by decide) hkl rfl rfl
  have f_53 : ∀ u_ v_ : Nat, (u_ ≠ 229 + 6 ∧ (u_ ≠ 229 ∨ v_ ≠ 78)) → M_48 u_ v_ = M_40 u_ v_ := fun u v h => p_50.1 u v h.1 h.2
  have f_52 : M_48 229 78 = (900 * k + 45) + 6 := p_50.2.2
  have f_52g : M_48 229 79 = M_40 229 79 := f_53 229 79 (by omega)
  clear p_50
  refine g_aload_n (n := 63) hx 0 (dq tX10_carriesAll 32 rfl) rfl rfl ?_
  refine g_aload_n (n := 64) hx 0 (dq tX10_carriesAll 33 rfl) rfl rfl ?_
  refine g_getR (n := 67) hx glX10_28 (sX10_7 (by decide)) (dq tX10_carriesAll 34 rfl) rfl ?_
  refine g_callVv (n := 70) (As := [aR Γ (229 + 7)]) (rest := []) hx (ctX10_carryG Γ M_48 (229 + 7) 6 (900 * k + 51) (akI (aX10_7 (b := 229) (by decide))) (by decide) (by omega) (by omega) (by omega) (by omega) (by decide) (by decide) (fun j hj => by
      have q := ex0 (229 + 7) j (by decide) (by decide) hj
      rw [show (900 * k + 51).toNat + j = 900 * k.toNat + 51 + j by omega, T_54.2]; exact q)) mlX10_647 (obX10 (by decide)) (dq tX10_carriesAll 35 rfl) rfl (Nat.le_of_ble_eq_true rfl) (Nat.le_of_ble_eq_true rfl) (Nat.le_of_ble_eq_true rfl) rfl (fun M_56 p_58 => ?_)
  have T_62 : Gk M_56 M k (229 + 7) := Gk.go T_54 p_58 (by decide) rfl (by decide) hkl rfl rfl
  have f_61 : ∀ u_ v_ : Nat, (u_ ≠ 229 + 7 ∧ (u_ ≠ 229 ∨ v_ ≠ 78)) → M_56 u_ v_ = M_48 u_ v_ := fun u v h => p_58.1 u v h.1 h.2
  have f_60 : M_56 229 78 = (900 * k + 51) + 6 := p_58.2.2
  have f_60g : M_56 229 79 = M_48 229 79 := f_61 229 79 (by omega)
  clear p_58
  refine g_aload_n (n := 71) hx 0 (dq tX10_carriesAll 36 rfl) rfl rfl ?_
  refine g_aload_n (n := 72) hx 0 (dq tX10_carriesAll 37 rfl) rfl rfl ?_
  refine g_getR (n := 75) hx glX10_31 (sX10_8 (by decide)) (dq tX10_carriesAll 38 rfl) rfl ?_
  refine g_callVv (n := 78) (As := [aR Γ (229 + 8)]) (rest := []) hx (ctX10_carryG Γ M_56 (229 + 8) 36 (900 * k + 57) (akI (aX10_8 (b := 229) (by decide))) (by decide) (by omega) (by omega) (by omega) (by omega) (by decide) (by decide) (fun j hj => by
      have q := ex0 (229 + 8) j (by decide) (by decide) hj
      rw [show (900 * k + 57).toNat + j = 900 * k.toNat + 57 + j by omega, T_62.2]; exact q)) mlX10_647 (obX10 (by decide)) (dq tX10_carriesAll 39 rfl) rfl (Nat.le_of_ble_eq_true rfl) (Nat.le_of_ble_eq_true rfl) (Nat.le_of_ble_eq_true rfl) rfl (fun M_64 p_66 => ?_)
  have T_70 : Gk M_64 M k (229 + 8) := Gk.go T_62 p_66 (by decide) rfl (by decide) hkl rfl rfl
  have f_69 : ∀ u_ v_ : Nat, (u_ ≠ 229 + 8 ∧ (u_ ≠ 229 ∨ v_ ≠ 78)) → M_64 u_ v_ = M_56 u_ v_ := fun u v h => p_66.1 u v h.1 h.2
  have f_68 : M_64 229 78 = (900 * k + 57) + 36 := p_66.2.2
  have f_68g : M_64 229 79 = M_56 229 79 := f_69 229 79 (by omega)
  clear p_66
  refine g_aload_n (n := 79) hx 0 (dq tX10_carriesAll 40 rfl) rfl rfl ?_
  refine g_aload_n (n := 80) hx 0 (dq tX10_carriesAll 41 rfl) rfl rfl ?_
  refine g_getR (n := 83) hx glX10_34 (sX10_9 (by decide)) (dq tX10_carriesAll 42 rfl) rfl ?_
  refine g_callVv (n := 86) (As := [aR Γ (229 + 9)]) (rest := []) hx (ctX10_carryG Γ M_64 (229 + 9) 12 (900 * k + 93) (akI (aX10_9 (b := 229) (by decide))) (by decide) (by omega) (by omega) (by omega) (by omega) (by decide) (by decide) (fun j hj => by
      have q := ex0 (229 + 9) j (by decide) (by decide) hj
      rw [show (900 * k + 93).toNat + j = 900 * k.toNat + 93 + j by omega, T_70.2]; exact q)) mlX10_647 (obX10 (by decide)) (dq tX10_carriesAll 43 rfl) rfl (Nat.le_of_ble_eq_true rfl) (Nat.le_of_ble_eq_true rfl) (Nat.le_of_ble_eq_true rfl) rfl (fun M_72 p_74 => ?_)
  have T_78 : Gk M_72 M k (229 + 9) := Gk.go T_70 p_74 (by decide) rfl (by decide) hkl rfl rfl
  have f_77 : ∀ u_ v_ : Nat, (u_ ≠ 229 + 9 ∧ (u_ ≠ 229 ∨ v_ ≠ 78)) → M_72 u_ v_ = M_64 u_ v_ := fun u v h => p_74.1 u v h.1 h.2
  have f_76 : M_72 229 78 = (900 * k + 93) + 12 := p_74.2.2
  have f_76g : M_72 229 79 = M_64 229 79 := f_77 229 79 (by omega)
  clear p_74
  refine g_aload_n (n := 87) hx 0 (dq tX10_carriesAll 44 rfl) rfl rfl ?_
  refine g_aload_n (n := 88) hx 0 (dq tX10_carriesAll 45 rfl) rfl rfl ?_
  refine g_getR (n := 91) hx glX10_37 (sX10_10 (by decide)) (dq tX10_carriesAll 46 rfl) rfl ?_
  refine g_callVv (n := 94) (As := [aR Γ (229 + 10)]) (rest := []) hx (ctX10_carryG Γ M_72 (229 + 10) 12 (900 * k + 105) (akI (aX10_10 (b := 229) (by decide))) (by decide) (by omega) (by omega) (by omega) (by omega) (by decide) (by decide) (fun j hj => by
      have q := ex0 (229 + 10) j (by decide) (by decide) hj
      rw [show (900 * k + 105).toNat + j = 900 * k.toNat + 105 + j by omega, T_78.2]; exact q)) mlX10_647 (obX10 (by decide)) (dq tX10_carriesAll 47 rfl) rfl (Nat.le_of_ble_eq_true rfl) (Nat.le_of_ble_eq_true rfl) (Nat.le_of_ble_eq_true rfl) rfl (fun M_80 p_82 => ?_)
  have T_86 : Gk M_80 M k (229 + 10) := Gk.go T_78 p_82 (by decide) rfl (by decide) hkl rfl rfl
  have f_85 : ∀ u_ v_ : Nat, (u_ ≠ 229 + 10 ∧ (u_ ≠ 229 ∨ v_ ≠ 78)) → M_80 u_ v_ = M_72 u_ v_ := fun u v h => p_82.1 u v h.1 h.2
  have f_84 : M_80 229 78 = (900 * k + 105) + 12 := p_82.2.2
  have f_84g : M_80 229 79 = M_72 229 79 := f_85 229 79 (by omega)
  clear p_82
  refine g_aload_n (n := 95) hx 0 (dq tX10_carriesAll 48 rfl) rfl rfl ?_
  refine g_aload_n (n := 96) hx 0 (dq tX10_carriesAll 49 rfl) rfl rfl ?_
  refine g_getR (n := 99) hx glX10_40 (sX10_11 (by decide)) (dq tX10_carriesAll 50 rfl) rfl ?_
  refine g_callVv (n := 102) (As := [aR Γ (229 + 11)]) (rest := []) hx (ctX10_carryG Γ M_80 (229 + 11) 12 (900 * k + 117) (akI (aX10_11 (b := 229) (by decide))) (by decide) (by omega) (by omega) (by omega) (by omega) (by decide) (by decide) (fun j hj => by
      have q := ex0 (229 + 11) j (by decide) (by decide) hj
      rw [show (900 * k + 117).toNat + j = 900 * k.toNat + 117 + j by omega, T_86.2]; exact q)) mlX10_647 (obX10 (by decide)) (dq tX10_carriesAll 51 rfl) rfl (Nat.le_of_ble_eq_true rfl) (Nat.le_of_ble_eq_true rfl) (Nat.le_of_ble_eq_true rfl) rfl (fun M_88 p_90 => ?_)
  have T_94 : Gk M_88 M k (229 + 11) := Gk.go T_86 p_90 (by decide) rfl (by decide) hkl rfl rfl
  have f_93 : ∀ u_ v_ : Nat, (u_ ≠ 229 + 11 ∧ (u_ ≠ 229 ∨ v_ ≠ 78)) → M_88 u_ v_ = M_80 u_ v_ := fun u v h => p_90.1 u v h.1 h.2
  have f_92 : M_88 229 78 = (900 * k + 117) + 12 := p_90.2.2
  have f_92g : M_88 229 79 = M_80 229 79 := f_93 229 79 (by omega)
  clear p_90
  refine g_aload_n (n := 103) hx 0 (dq tX10_carriesAll 52 rfl) rfl rfl ?_
  refine g_aload_n (n := 104) hx 0 (dq tX10_carriesAll 53 rfl) rfl rfl ?_
  refine g_getR (n := 107) hx glX10_43 (sX10_12 (by decide)) (dq tX10_carriesAll 54 rfl) rfl ?_
  refine g_callVv (n := 110) (As := [aR Γ (229 + 12)]) (rest := []) hx (ctX10_carryG Γ M_88 (229 + 12) 12 (900 * k + 129) (akI (aX10_12 (b := 229) (by decide))) (by decide) (by omega) (by omega) (by omega) (by omega) (by decide) (by decide) (fun j hj => by
      have q := ex0 (229 + 12) j (by decide) (by decide) hj
      rw [show (900 * k + 129).toNat + j = 900 * k.toNat + 129 + j by omega, T_94.2]; exact q)) mlX10_647 (obX10 (by decide)) (dq tX10_carriesAll 55 rfl) rfl (Nat.le_of_ble_eq_true rfl) (Nat.le_of_ble_eq_true rfl) (Nat.le_of_ble_eq_true rfl) rfl (fun M_96 p_98 => ?_)
  have T_102 : Gk M_96 M k (229 + 12) := Gk.go T_94 p_98 (by decide) rfl (by decide) hkl rfl rfl
  have f_101 : ∀ u_ v_ : Nat, (u_ ≠ 229 + 12 ∧ (u_ ≠ 229 ∨ v_ ≠ 78)) → M_96 u_ v_ = M_88 u_ v_ := fun u v h => p_98.1 u v h.1 h.2
  have f_100 : M_96 229 78 = (900 * k + 129) + 12 := p_98.2.2
  have f_100g : M_96 229 79 = M_88 229 79 := f_101 229 79 (by omega)
  clear p_98
  refine g_aload_n (n := 111) hx 0 (dq tX10_carriesAll 56 rfl) rfl rfl ?_
  refine g_aload_n (n := 112) hx 0 (dq tX10_carriesAll 57 rfl) rfl rfl ?_
  refine g_getR (n := 115) hx glX10_46 (sX10_13 (by decide)) (dq tX10_carriesAll 58 rfl) rfl ?_
  refine g_callVv (n := 118) (As := [aR Γ (229 + 13)]) (rest := []) hx (ctX10_carryG Γ M_96 (229 + 13) 12 (900 * k + 141) (akI (aX10_13 (b := 229) (by decide))) (by decide) (by omega) (by omega) (by omega) (by omega) (by decide) (by decide) (fun j hj => by
      have q := ex0 (229 + 13) j (by decide) (by decide) hj
      rw [show (900 * k + 141).toNat + j = 900 * k.toNat + 141 + j by omega, T_102.2]; exact q)) mlX10_647 (obX10 (by decide)) (dq tX10_carriesAll 59 rfl) rfl (Nat.le_of_ble_eq_true rfl) (Nat.le_of_ble_eq_true rfl) (Nat.le_of_ble_eq_true rfl) rfl (fun M_104 p_106 => ?_)
  have T_110 : Gk M_104 M k (229 + 13) := Gk.go T_102 p_106 (by decide) rfl (by decide) hkl rfl rfl
  have f_109 : ∀ u_ v_ : Nat, (u_ ≠ 229 + 13 ∧ (u_ ≠ 229 ∨ v_ ≠ 78)) → M_104 u_ v_ = M_96 u_ v_ := fun u v h => p_106.1 u v h.1 h.2
  have f_108 : M_104 229 78 = (900 * k + 141) + 12 := p_106.2.2
  have f_108g : M_104 229 79 = M_96 229 79 := f_109 229 79 (by omega)
  clear p_106
  refine g_aload_n (n := 119) hx 0 (dq tX10_carriesAll 60 rfl) rfl rfl ?_
  refine g_aload_n (n := 120) hx 0 (dq tX10_carriesAll 61 rfl) rfl rfl ?_
  refine g_getR (n := 123) hx glX10_49 (sX10_14 (by decide)) (dq tX10_carriesAll 62 rfl) rfl ?_
  refine g_callVv (n := 126) (As := [aR Γ (229 + 14)]) (rest := []) hx (ctX10_carryG Γ M_104 (229 + 14) 12 (900 * k + 153) (akI (aX10_14 (b := 229) (by decide))) (by decide) (by omega) (by omega) (by omega) (by omega) (by decide) (by decide) (fun j hj => by
      have q := ex0 (229 + 14) j (by decide) (by decide) hj
      rw [show (900 * k + 153).toNat + j = 900 * k.toNat + 153 + j by omega, T_110.2]; exact q)) mlX10_647 (obX10 (by decide)) (dq tX10_carriesAll 63 rfl) rfl (Nat.le_of_ble_eq_true rfl) (Nat.le_of_ble_eq_true rfl) (Nat.le_of_ble_eq_true rfl) rfl (fun M_112 p_114 => ?_)
  have T_118 : Gk M_112 M k (229 + 14) := Gk.go T_110 p_114 (by decide) rfl (by decide) hkl rfl rfl
  have f_117 : ∀ u_ v_ : Nat, (u_ ≠ 229 + 14 ∧ (u_ ≠ 229 ∨ v_ ≠ 78)) → M_112 u_ v_ = M_104 u_ v_ := fun u v h => p_114.1 u v h.1 h.2
  have f_116 : M_112 229 78 = (900 * k + 153) + 12 := p_114.2.2
  have f_116g : M_112 229 79 = M_104 229 79 := f_117 229 79 (by omega)
  clear p_114
  refine g_aload_n (n := 127) hx 0 (dq tX10_carriesAll 64 rfl) rfl rfl ?_
  refine g_aload_n (n := 128) hx 0 (dq tX10_carriesAll 65 rfl) rfl rfl ?_
  refine g_getR (n := 131) hx glX10_52 (sX10_15 (by decide)) (dq tX10_carriesAll 66 rfl) rfl ?_
  refine g_callVv (n := 134) (As := [aR Γ (229 + 15)]) (rest := []) hx (ctX10_carryG Γ M_112 (229 + 15) 12 (900 * k + 165) (akI (aX10_15 (b := 229) (by decide))) (by decide) (by omega) (by omega) (by omega) (by omega) (by decide) (by decide) (fun j hj => by
      have q := ex0 (229 + 15) j (by decide) (by decide) hj
      rw [show (900 * k + 165).toNat + j = 900 * k.toNat + 165 + j by omega, T_118.2]; exact q)) mlX10_647 (obX10 (by decide)) (dq tX10_carriesAll 67 rfl) rfl (Nat.le_of_ble_eq_true rfl) (Nat.le_of_ble_eq_true rfl) (Nat.le_of_ble_eq_true rfl) rfl (fun M_120 p_122 => ?_)
  have T_126 : Gk M_120 M k (229 + 15) := Gk.go T_118 p_122 (by decide) rfl (by decide) hkl rfl rfl
  have f_125 : ∀ u_ v_ : Nat, (u_ ≠ 229 + 15 ∧ (u_ ≠ 229 ∨ v_ ≠ 78)) → M_120 u_ v_ = M_112 u_ v_ := fun u v h => p_122.1 u v h.1 h.2
  have f_124 : M_120 229 78 = (900 * k + 165) + 12 := p_122.2.2
  have f_124g : M_120 229 79 = M_112 229 79 := f_125 229 79 (by omega)
  clear p_122
  refine g_aload_n (n := 135) hx 0 (dq tX10_carriesAll 68 rfl) rfl rfl ?_
  refine g_aload_n (n := 136) hx 0 (dq tX10_carriesAll 69 rfl) rfl rfl ?_
  refine g_getR (n := 139) hx glX10_55 (sX10_16 (by decide)) (dq tX10_carriesAll 70 rfl) rfl ?_
  refine g_callVv (n := 142) (As := [aR Γ (229 + 16)]) (rest := []) hx (ctX10_carryG Γ M_120 (229 + 16) 12 (900 * k + 177) (akI (aX10_16 (b := 229) (by decide))) (by decide) (by omega) (by omega) (by omega) (by omega) (by decide) (by decide) (fun j hj => by
      have q := ex0 (229 + 16) j (by decide) (by decide) hj
      rw [show (900 * k + 177).toNat + j = 900 * k.toNat + 177 + j by omega, T_126.2]; exact q)) mlX10_647 (obX10 (by decide)) (dq tX10_carriesAll 71 rfl) rfl (Nat.le_of_ble_eq_true rfl) (Nat.le_of_ble_eq_true rfl) (Nat.le_of_ble_eq_true rfl) rfl (fun M_128 p_130 => ?_)
  have T_134 : Gk M_128 M k (229 + 16) := Gk.go T_126 p_130 (by decide) rfl (by decide) hkl rfl rfl
  have f_133 : ∀ u_ v_ : Nat, (u_ ≠ 229 + 16 ∧ (u_ ≠ 229 ∨ v_ ≠ 78)) → M_128 u_ v_ = M_120 u_ v_ := fun u v h => p_130.1 u v h.1 h.2
  have f_132 : M_128 229 78 = (900 * k + 177) + 12 := p_130.2.2
  have f_132g : M_128 229 79 = M_120 229 79 := f_133 229 79 (by omega)
  clear p_130
  refine g_aload_n (n := 143) hx 0 (dq tX10_carriesAll 72 rfl) rfl rfl ?_
  refine g_aload_n (n := 144) hx 0 (dq tX10_carriesAll 73 rfl) rfl rfl ?_
  refine g_getR (n := 147) hx glX10_58 (sX10_17 (by decide)) (dq tX10_carriesAll 74 rfl) rfl ?_
  refine g_callVv (n := 150) (As := [aR Γ (229 + 17)]) (rest := []) hx (ctX10_carryG Γ M_128 (229 + 17) 12 (900 * k + 189) (akI (aX10_17 (b := 229) (by decide))) (by decide) (by omega) (by omega) (by omega) (by omega) (by decide) (by decide) (fun j hj => by
      have q := ex0 (229 + 17) j (by decide) (by decide) hj
      rw [show (900 * k + 189).toNat + j = 900 * k.toNat + 189 + j by omega, T_134.2]; exact q)) mlX10_647 (obX10 (by decide)) (dq tX10_carriesAll 75 rfl) rfl (Nat.le_of_ble_eq_true rfl) (Nat.le_of_ble_eq_true rfl) (Nat.le_of_ble_eq_true rfl) rfl (fun M_136 p_138 => ?_)
  have T_142 : Gk M_136 M k (229 + 17) := Gk.go T_134 p_138 (by decide) rfl (by decide) hkl rfl rfl
  have f_141 : ∀ u_ v_ : Nat, (u_ ≠ 229 + 17 ∧ (u_ ≠ 229 ∨ v_ ≠ 78)) → M_136 u_ v_ = M_128 u_ v_ := fun u v h => p_138.1 u v h.1 h.2
  have f_140 : M_136 229 78 = (900 * k + 189) + 12 := p_138.2.2
  have f_140g : M_136 229 79 = M_128 229 79 := f_141 229 79 (by omega)
  clear p_138
  refine g_aload_n (n := 151) hx 0 (dq tX10_carriesAll 76 rfl) rfl rfl ?_
  refine g_aload_n (n := 152) hx 0 (dq tX10_carriesAll 77 rfl) rfl rfl ?_
  refine g_getR (n := 155) hx glX10_61 (sX10_18 (by decide)) (dq tX10_carriesAll 78 rfl) rfl ?_
  refine g_callVv (n := 158) (As := [aR Γ (229 + 18)]) (rest := []) hx (ctX10_carryG Γ M_136 (229 + 18) 72 (900 * k + 201) (akI (aX10_18 (b := 229) (by decide))) (by decide) (by omega) (by omega) (by omega) (by omega) (by decide) (by decide) (fun j hj => by
      have q := ex0 (229 + 18) j (by decide) (by decide) hj
      rw [show (900 * k + 201).toNat + j = 900 * k.toNat + 201 + j by omega, T_142.2]; exact q)) mlX10_647 (obX10 (by decide)) (dq tX10_carriesAll 79 rfl) rfl (Nat.le_of_ble_eq_true rfl) (Nat.le_of_ble_eq_true rfl) (Nat.le_of_ble_eq_true rfl) rfl (fun M_144 p_146 => ?_)
  have T_150 : Gk M_144 M k (229 + 18) := Gk.go T_142 p_146 (by decide) rfl (by decide) hkl rfl rfl
  have f_149 : ∀ u_ v_ : Nat, (u_ ≠ 229 + 18 ∧ (u_ ≠ 229 ∨ v_ ≠ 78)) → M_144 u_ v_ = M_136 u_ v_ := fun u v h => p_146.1 u v h.1 h.2
  have f_148 : M_144 229 78 = (900 * k + 201) + 72 := p_146.2.2
  have f_148g : M_144 229 79 = M_136 229 79 := f_149 229 79 (by omega)
  clear p_146
  refine g_aload_n (n := 159) hx 0 (dq tX10_carriesAll 80 rfl) rfl rfl ?_
  refine g_aload_n (n := 160) hx 0 (dq tX10_carriesAll 81 rfl) rfl rfl ?_
  refine g_getR (n := 163) hx glX10_64 (sX10_19 (by decide)) (dq tX10_carriesAll 82 rfl) rfl ?_
  refine g_callVv (n := 166) (As := [aR Γ (229 + 19)]) (rest := []) hx (ctX10_carryG Γ M_144 (229 + 19) 20 (900 * k + 273) (akI (aX10_19 (b := 229) (by decide))) (by decide) (by omega) (by omega) (by omega) (by omega) (by decide) (by decide) (fun j hj => by
      have q := ex0 (229 + 19) j (by decide) (by decide) hj
      rw [show (900 * k + 273).toNat + j = 900 * k.toNat + 273 + j by omega, T_150.2]; exact q)) mlX10_647 (obX10 (by decide)) (dq tX10_carriesAll 83 rfl) rfl (Nat.le_of_ble_eq_true rfl) (Nat.le_of_ble_eq_true rfl) (Nat.le_of_ble_eq_true rfl) rfl (fun M_152 p_154 => ?_)
  have T_158 : Gk M_152 M k (229 + 19) := Gk.go T_150 p_154 (by decide) rfl (by decide) hkl rfl rfl
  have f_157 : ∀ u_ v_ : Nat, (u_ ≠ 229 + 19 ∧ (u_ ≠ 229 ∨ v_ ≠ 78)) → M_152 u_ v_ = M_144 u_ v_ := fun u v h => p_154.1 u v h.1 h.2
  have f_156 : M_152 229 78 = (900 * k + 273) + 20 := p_154.2.2
  have f_156g : M_152 229 79 = M_144 229 79 := f_157 229 79 (by omega)
  clear p_154
  refine g_aload_n (n := 167) hx 0 (dq tX10_carriesAll 84 rfl) rfl rfl ?_
  refine g_aload_n (n := 168) hx 0 (dq tX10_carriesAll 85 rfl) rfl rfl ?_
  refine g_getR (n := 171) hx glX10_67 (sX10_20 (by decide)) (dq tX10_carriesAll 86 rfl) rfl ?_
  refine g_callVv (n := 174) (As := [aR Γ (229 + 20)]) (rest := []) hx (ctX10_carryG Γ M_152 (229 + 20) 20 (900 * k + 293) (akI (aX10_20 (b := 229) (by decide))) (by decide) (by omega) (by omega) (by omega) (by omega) (by decide) (by decide) (fun j hj => by
      have q := ex0 (229 + 20) j (by decide) (by decide) hj
      rw [show (900 * k + 293).toNat + j = 900 * k.toNat + 293 + j by omega, T_158.2]; exact q)) mlX10_647 (obX10 (by decide)) (dq tX10_carriesAll 87 rfl) rfl (Nat.le_of_ble_eq_true rfl) (Nat.le_of_ble_eq_true rfl) (Nat.le_of_ble_eq_true rfl) rfl (fun M_160 p_162 => ?_)
  have T_166 : Gk M_160 M k (229 + 20) := Gk.go T_158 p_162 (by decide) rfl (by decide) hkl rfl rfl
  have f_165 : ∀ u_ v_ : Nat, (u_ ≠ 229 + 20 ∧ (u_ ≠ 229 ∨ v_ ≠ 78)) → M_160 u_ v_ = M_152 u_ v_ := fun u v h => p_162.1 u v h.1 h.2
  have f_164 : M_160 229 78 = (900 * k + 293) + 20 := p_162.2.2
  have f_164g : M_160 229 79 = M_152 229 79 := f_165 229 79 (by omega)
  clear p_162
  refine g_aload_n (n := 175) hx 0 (dq tX10_carriesAll 88 rfl) rfl rfl ?_
  refine g_aload_n (n := 176) hx 0 (dq tX10_carriesAll 89 rfl) rfl rfl ?_
  refine g_getR (n := 179) hx glX10_70 (sX10_21 (by decide)) (dq tX10_carriesAll 90 rfl) rfl ?_
  refine g_callVv (n := 182) (As := [aR Γ (229 + 21)]) (rest := []) hx (ctX10_carryG Γ M_160 (229 + 21) 20 (900 * k + 313) (akI (aX10_21 (b := 229) (by decide))) (by decide) (by omega) (by omega) (by omega) (by omega) (by decide) (by decide) (fun j hj => by
      have q := ex0 (229 + 21) j (by decide) (by decide) hj
      rw [show (900 * k + 313).toNat + j = 900 * k.toNat + 313 + j by omega, T_166.2]; exact q)) mlX10_647 (obX10 (by decide)) (dq tX10_carriesAll 91 rfl) rfl (Nat.le_of_ble_eq_true rfl) (Nat.le_of_ble_eq_true rfl) (Nat.le_of_ble_eq_true rfl) rfl (fun M_168 p_170 => ?_)
  have T_174 : Gk M_168 M k (229 + 21) := Gk.go T_166 p_170 (by decide) rfl (by decide) hkl rfl rfl
  have f_173 : ∀ u_ v_ : Nat, (u_ ≠ 229 + 21 ∧ (u_ ≠ 229 ∨ v_ ≠ 78)) → M_168 u_ v_ = M_160 u_ v_ := fun u v h => p_170.1 u v h.1 h.2
  have f_172 : M_168 229 78 = (900 * k + 313) + 20 := p_170.2.2
  have f_172g : M_168 229 79 = M_160 229 79 := f_173 229 79 (by omega)
  clear p_170
  refine g_aload_n (n := 183) hx 0 (dq tX10_carriesAll 92 rfl) rfl rfl ?_
  refine g_aload_n (n := 184) hx 0 (dq tX10_carriesAll 93 rfl) rfl rfl ?_
  refine g_getR (n := 187) hx glX10_73 (sX10_22 (by decide)) (dq tX10_carriesAll 94 rfl) rfl ?_
  refine g_callVv (n := 190) (As := [aR Γ (229 + 22)]) (rest := []) hx (ctX10_carryG Γ M_168 (229 + 22) 20 (900 * k + 333) (akI (aX10_22 (b := 229) (by decide))) (by decide) (by omega) (by omega) (by omega) (by omega) (by decide) (by decide) (fun j hj => by
      have q := ex0 (229 + 22) j (by decide) (by decide) hj
      rw [show (900 * k + 333).toNat + j = 900 * k.toNat + 333 + j by omega, T_174.2]; exact q)) mlX10_647 (obX10 (by decide)) (dq tX10_carriesAll 95 rfl) rfl (Nat.le_of_ble_eq_true rfl) (Nat.le_of_ble_eq_true rfl) (Nat.le_of_ble_eq_true rfl) rfl (fun M_176 p_178 => ?_)
  have T_182 : Gk M_176 M k (229 + 22) := Gk.go T_174 p_178 (by decide) rfl (by decide) hkl rfl rfl
  have f_181 : ∀ u_ v_ : Nat, (u_ ≠ 229 + 22 ∧ (u_ ≠ 229 ∨ v_ ≠ 78)) → M_176 u_ v_ = M_168 u_ v_ := fun u v h => p_178.1 u v h.1 h.2
  have f_180 : M_176 229 78 = (900 * k + 333) + 20 := p_178.2.2
  have f_180g : M_176 229 79 = M_168 229 79 := f_181 229 79 (by omega)
  clear p_178
  refine g_aload_n (n := 191) hx 0 (dq tX10_carriesAll 96 rfl) rfl rfl ?_
  refine g_aload_n (n := 192) hx 0 (dq tX10_carriesAll 97 rfl) rfl rfl ?_
  refine g_getR (n := 195) hx glX10_76 (sX10_23 (by decide)) (dq tX10_carriesAll 98 rfl) rfl ?_
  refine g_callVv (n := 198) (As := [aR Γ (229 + 23)]) (rest := []) hx (ctX10_carryG Γ M_176 (229 + 23) 20 (900 * k + 353) (akI (aX10_23 (b := 229) (by decide))) (by decide) (by omega) (by omega) (by omega) (by omega) (by decide) (by decide) (fun j hj => by
      have q := ex0 (229 + 23) j (by decide) (by decide) hj
      rw [show (900 * k + 353).toNat + j = 900 * k.toNat + 353 + j by omega, T_182.2]; exact q)) mlX10_647 (obX10 (by decide)) (dq tX10_carriesAll 99 rfl) rfl (Nat.le_of_ble_eq_true rfl) (Nat.le_of_ble_eq_true rfl) (Nat.le_of_ble_eq_true rfl) rfl (fun M_184 p_186 => ?_)
  have T_190 : Gk M_184 M k (229 + 23) := Gk.go T_182 p_186 (by decide) rfl (by decide) hkl rfl rfl
  have f_189 : ∀ u_ v_ : Nat, (u_ ≠ 229 + 23 ∧ (u_ ≠ 229 ∨ v_ ≠ 78)) → M_184 u_ v_ = M_176 u_ v_ := fun u v h => p_186.1 u v h.1 h.2
  have f_188 : M_184 229 78 = (900 * k + 353) + 20 := p_186.2.2
  have f_188g : M_184 229 79 = M_176 229 79 := f_189 229 79 (by omega)
  clear p_186
  refine g_aload_n (n := 199) hx 0 (dq tX10_carriesAll 100 rfl) rfl rfl ?_
  refine g_aload_n (n := 200) hx 0 (dq tX10_carriesAll 101 rfl) rfl rfl ?_
  refine g_getR (n := 203) hx glX10_79 (sX10_24 (by decide)) (dq tX10_carriesAll 102 rfl) rfl ?_
  refine g_callVv (n := 206) (As := [aR Γ (229 + 24)]) (rest := []) hx (ctX10_carryG Γ M_184 (229 + 24) 12 (900 * k + 373) (akI (aX10_24 (b := 229) (by decide))) (by decide) (by omega) (by omega) (by omega) (by omega) (by decide) (by decide) (fun j hj => by
      have q := ex0 (229 + 24) j (by decide) (by decide) hj
      rw [show (900 * k + 373).toNat + j = 900 * k.toNat + 373 + j by omega, T_190.2]; exact q)) mlX10_647 (obX10 (by decide)) (dq tX10_carriesAll 103 rfl) rfl (Nat.le_of_ble_eq_true rfl) (Nat.le_of_ble_eq_true rfl) (Nat.le_of_ble_eq_true rfl) rfl (fun M_192 p_194 => ?_)
  have T_198 : Gk M_192 M k (229 + 24) := Gk.go T_190 p_194 (by decide) rfl (by decide) hkl rfl rfl
  have f_197 : ∀ u_ v_ : Nat, (u_ ≠ 229 + 24 ∧ (u_ ≠ 229 ∨ v_ ≠ 78)) → M_192 u_ v_ = M_184 u_ v_ := fun u v h => p_194.1 u v h.1 h.2
  have f_196 : M_192 229 78 = (900 * k + 373) + 12 := p_194.2.2
  have f_196g : M_192 229 79 = M_184 229 79 := f_197 229 79 (by omega)
  clear p_194
  refine g_aload_n (n := 207) hx 0 (dq tX10_carriesAll 104 rfl) rfl rfl ?_
  refine g_aload_n (n := 208) hx 0 (dq tX10_carriesAll 105 rfl) rfl rfl ?_
  refine g_getR (n := 211) hx glX10_82 (sX10_25 (by decide)) (dq tX10_carriesAll 106 rfl) rfl ?_
  refine g_callVv (n := 214) (As := [aR Γ (229 + 25)]) (rest := []) hx (ctX10_carryG Γ M_192 (229 + 25) 12 (900 * k + 385) (akI (aX10_25 (b := 229) (by decide))) (by decide) (by omega) (by omega) (by omega) (by omega) (by decide) (by decide) (fun j hj => by
      have q := ex0 (229 + 25) j (by decide) (by decide) hj
      rw [show (900 * k + 385).toNat + j = 900 * k.toNat + 385 + j by omega, T_198.2]; exact q)) mlX10_647 (obX10 (by decide)) (dq tX10_carriesAll 107 rfl) rfl (Nat.le_of_ble_eq_true rfl) (Nat.le_of_ble_eq_true rfl) (Nat.le_of_ble_eq_true rfl) rfl (fun M_200 p_202 => ?_)
  have T_206 : Gk M_200 M k (229 + 25) := Gk.go T_198 p_202 (by decide) rfl (by decide) hkl rfl rfl
  have f_205 : ∀ u_ v_ : Nat, (u_ ≠ 229 + 25 ∧ (u_ ≠ 229 ∨ v_ ≠ 78)) → M_200 u_ v_ = M_192 u_ v_ := fun u v h => p_202.1 u v h.1 h.2
  have f_204 : M_200 229 78 = (900 * k + 385) + 12 := p_202.2.2
  have f_204g : M_200 229 79 = M_192 229 79 := f_205 229 79 (by omega)
  clear p_202
  refine g_aload_n (n := 215) hx 0 (dq tX10_carriesAll 108 rfl) rfl rfl ?_
  refine g_aload_n (n := 216) hx 0 (dq tX10_carriesAll 109 rfl) rfl rfl ?_
  refine g_getR (n := 219) hx glX10_85 (sX10_26 (by decide)) (dq tX10_carriesAll 110 rfl) rfl ?_
  refine g_callVv (n := 222) (As := [aR Γ (229 + 26)]) (rest := []) hx (ctX10_carryG Γ M_200 (229 + 26) 12 (900 * k + 397) (akI (aX10_26 (b := 229) (by decide))) (by decide) (by omega) (by omega) (by omega) (by omega) (by decide) (by decide) (fun j hj => by
      have q := ex0 (229 + 26) j (by decide) (by decide) hj
      rw [show (900 * k + 397).toNat + j = 900 * k.toNat + 397 + j by omega, T_206.2]; exact q)) mlX10_647 (obX10 (by decide)) (dq tX10_carriesAll 111 rfl) rfl (Nat.le_of_ble_eq_true rfl) (Nat.le_of_ble_eq_true rfl) (Nat.le_of_ble_eq_true rfl) rfl (fun M_208 p_210 => ?_)
  have T_214 : Gk M_208 M k (229 + 26) := Gk.go T_206 p_210 (by decide) rfl (by decide) hkl rfl rfl
  have f_213 : ∀ u_ v_ : Nat, (u_ ≠ 229 + 26 ∧ (u_ ≠ 229 ∨ v_ ≠ 78)) → M_208 u_ v_ = M_200 u_ v_ := fun u v h => p_210.1 u v h.1 h.2
  have f_212 : M_208 229 78 = (900 * k + 397) + 12 := p_210.2.2
  have f_212g : M_208 229 79 = M_200 229 79 := f_213 229 79 (by omega)
  clear p_210
  refine g_aload_n (n := 223) hx 0 (dq tX10_carriesAll 112 rfl) rfl rfl ?_
  refine g_aload_n (n := 224) hx 0 (dq tX10_carriesAll 113 rfl) rfl rfl ?_
  refine g_getR (n := 227) hx glX10_88 (sX10_27 (by decide)) (dq tX10_carriesAll 114 rfl) rfl ?_
  refine g_callVv (n := 230) (As := [aR Γ (229 + 27)]) (rest := []) hx (ctX10_carryG Γ M_208 (229 + 27) 12 (900 * k + 409) (akI (aX10_27 (b := 229) (by decide))) (by decide) (by omega) (by omega) (by omega) (by omega) (by decide) (by decide) (fun j hj => by
      have q := ex0 (229 + 27) j (by decide) (by decide) hj
      rw [show (900 * k + 409).toNat + j = 900 * k.toNat + 409 + j by omega, T_214.2]; exact q)) mlX10_647 (obX10 (by decide)) (dq tX10_carriesAll 115 rfl) rfl (Nat.le_of_ble_eq_true rfl) (Nat.le_of_ble_eq_true rfl) (Nat.le_of_ble_eq_true rfl) rfl (fun M_216 p_218 => ?_)
  have T_222 : Gk M_216 M k (229 + 27) := Gk.go T_214 p_218 (by decide) rfl (by decide) hkl rfl rfl
  have f_221 : ∀ u_ v_ : Nat, (u_ ≠ 229 + 27 ∧ (u_ ≠ 229 ∨ v_ ≠ 78)) → M_216 u_ v_ = M_208 u_ v_ := fun u v h => p_218.1 u v h.1 h.2
  have f_220 : M_216 229 78 = (900 * k + 409) + 12 := p_218.2.2
  have f_220g : M_216 229 79 = M_208 229 79 := f_221 229 79 (by omega)
  clear p_218
  refine g_aload_n (n := 231) hx 0 (dq tX10_carriesAll 116 rfl) rfl rfl ?_
  refine g_aload_n (n := 232) hx 0 (dq tX10_carriesAll 117 rfl) rfl rfl ?_
  refine g_getR (n := 235) hx glX10_91 (sX10_28 (by decide)) (dq tX10_carriesAll 118 rfl) rfl ?_
  refine g_callVv (n := 238) (As := [aR Γ (229 + 28)]) (rest := []) hx (ctX10_carryG Γ M_216 (229 + 28) 360 (900 * k + 421) (akI (aX10_28 (b := 229) (by decide))) (by decide) (by omega) (by omega) (by omega) (by omega) (by decide) (by decide) (fun j hj => by
      have q := ex0 (229 + 28) j (by decide) (by decide) hj
      rw [show (900 * k + 421).toNat + j = 900 * k.toNat + 421 + j by omega, T_222.2]; exact q)) mlX10_647 (obX10 (by decide)) (dq tX10_carriesAll 119 rfl) rfl (Nat.le_of_ble_eq_true rfl) (Nat.le_of_ble_eq_true rfl) (Nat.le_of_ble_eq_true rfl) rfl (fun M_224 p_226 => ?_)
  have T_230 : Gk M_224 M k (229 + 28) := Gk.go T_222 p_226 (by decide) rfl (by decide) hkl rfl rfl
  have f_229 : ∀ u_ v_ : Nat, (u_ ≠ 229 + 28 ∧ (u_ ≠ 229 ∨ v_ ≠ 78)) → M_224 u_ v_ = M_216 u_ v_ := fun u v h => p_226.1 u v h.1 h.2
  have f_228 : M_224 229 78 = (900 * k + 421) + 360 := p_226.2.2
  have f_228g : M_224 229 79 = M_216 229 79 := f_229 229 79 (by omega)
  clear p_226
  exact g_vret hx hr (dq tX10_carriesAll 120 rfl) ⟨(fun u_ v_ huv_ => ((((((((((((((((((((((((((((((f_229 u_ v_ (by omega)).trans (f_221 u_ v_ (by omega))).trans (f_213 u_ v_ (by omega))).trans (f_205 u_ v_ (by omega))).trans (f_197 u_ v_ (by omega))).trans (f_189 u_ v_ (by omega))).trans (f_181 u_ v_ (by omega))).trans (f_173 u_ v_ (by omega))).trans (f_165 u_ v_ (by omega))).trans (f_157 u_ v_ (by omega))).trans (f_149 u_ v_ (by omega))).trans (f_141 u_ v_ (by omega))).trans (f_133 u_ v_ (by omega))).trans (f_125 u_ v_ (by omega))).trans (f_117 u_ v_ (by omega))).trans (f_109 u_ v_ (by omega))).trans (f_101 u_ v_ (by omega))).trans (f_93 u_ v_ (by omega))).trans (f_85 u_ v_ (by omega))).trans (f_77 u_ v_ (by omega))).trans (f_69 u_ v_ (by omega))).trans (f_61 u_ v_ (by omega))).trans (f_53 u_ v_ (by omega))).trans (f_45 u_ v_ (by omega))).trans (f_37 u_ v_ (by omega))).trans (f_29 u_ v_ (by omega))).trans (f_21 u_ v_ (by omega))).trans (f_13 u_ v_ (by omega))).trans (m_4 u_ v_ (by omega))).trans (m_2 u_ v_ (by omega)))), (fun c j h1 h2 h3 => T_230.1 c j h1 (by omega) h3)⟩
