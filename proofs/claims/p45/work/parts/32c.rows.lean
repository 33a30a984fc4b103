abbrev qctX10_keepsCut (M : zM) (l : Int) (at_ : Int) (v : Int) (was : Int) (M' : zM) : Prop := (∀ u_ v_, u_ ≠ 229 + 24 ∧ u_ ≠ 229 + 25 ∧ u_ ≠ 229 + 26 ∧ u_ ≠ 229 + 27 ∧ (u_ ≠ 229 + 1 ∨ v_ ≠ 12) → M' u_ v_ = M u_ v_)
set_option maxHeartbeats 4000000 in
set_option maxRecDepth 100000 in
theorem ctX10_keepsCut (Γ : Gam) (M : zM) (l : Int) (hll : 0 ≤ l) (hlu : l ≤ 11) (at_ : Int) (hat_l : 0 ≤ at_) (hat_u : at_ ≤ 5) (v : Int) (hvl : (-2147483648) ≤ v) (hvu : v ≤ 2147483647) (was : Int) (hwasl : (-1) ≤ was) (hwasu : was ≤ 5)  : CtV Γ yX10_keepsCut cX10_keepsCut 6 none 0 0 [aR Γ 229, vI l, vI at_, vI v, vI was] M (qctX10_keepsCut M l at_ v was) := by
  refine met_v (by decide) (Nat.le_of_ble_eq_true rfl) (fun x hx hr => ?_)
  show G Γ x 6 (QV Γ x (qctX10_keepsCut M l at_ v was)) M 0 [(0, aR Γ 229), (1, vI l), (2, vI at_), (3, vI v), (4, vI was)] []
  refine g_aload_n (n := 1) hx 0 (dq tX10_keepsCut 0 rfl) rfl rfl ?_
  refine g_getR (n := 4) hx glX10_9 (sX10_1 (by decide)) (dq tX10_keepsCut 1 rfl) rfl ?_
  refine g_bipush (n := 6) hx (dq tX10_keepsCut 2 rfl) rfl (by decide) ?_
  refine g_ialdX (n := 7) (q := 12) hx (aX10_1 (b := 229) (by decide)) (dq tX10_keepsCut 3 rfl) rfl (by decide) (by decide) (by decide) rfl (fun h_1l h_1u => ?_)
  have h_1l : 0 ≤ M (229 + 1) 12 := h_1l
  have h_1u : M (229 + 1) 12 ≤ 12 := h_1u
  refine g_bipush (n := 9) hx (dq tX10_keepsCut 4 rfl) rfl (by decide) ?_
  have J_5 : ∀ (M_3 : zM),  (∀ u_ v_, (u_ ≠ 229 + 1 ∨ v_ ≠ 12) ∧ u_ ≠ 229 + 27 ∧ u_ ≠ 229 + 26 ∧ u_ ≠ 229 + 25 ∧ u_ ≠ 229 + 24 → M_3 u_ v_ = M u_ v_) → (M_3 (229 + 1) 12 ≤ 11) → G Γ x 6 (QV Γ x (qctX10_keepsCut M l at_ v was)) M_3 103 [(0, aR Γ 229), (1, vI l), (2, vI at_), (3, vI v), (4, vI was)] [] := by
    intro M_3 f_4 h_6
    refine g_aload_n (n := 104) hx 0 (dq tX10_keepsCut 61 rfl) rfl rfl ?_
    refine g_getR (n := 107) hx glX10_9 (sX10_1 (by decide)) (dq tX10_keepsCut 62 rfl) rfl ?_
    refine g_bipush (n := 109) hx (dq tX10_keepsCut 63 rfl) rfl (by decide) ?_
    refine g_ialdX (n := 110) (q := 12) hx (aX10_1 (b := 229) (by decide)) (dq tX10_keepsCut 64 rfl) rfl (by decide) (by decide) (by decide) rfl (fun h_7l h_7u => ?_)
    have h_7l : 0 ≤ M_3 (229 + 1) 12 := h_7l
    have h_7u : M_3 (229 + 1) 12 ≤ 12 := h_7u
    refine g_istore (n := 112) (lv' := [(5, vI (M_3 (229 + 1) 12)), (0, aR Γ 229), (1, vI l), (2, vI at_), (3, vI v), (4, vI was)]) hx (dq tX10_keepsCut 65 rfl) (by decide) rfl rfl ?_
    refine g_aload_n (n := 113) hx 1 (dq tX10_keepsCut 66 rfl) rfl rfl ?_
    refine g_getR (n := 116) hx glX10_79 (sX10_24 (by decide)) (dq tX10_keepsCut 67 rfl) rfl ?_
    refine g_iload (n := 118) hx 0 (dq tX10_keepsCut 68 rfl) rfl rfl ?_
    refine g_iload_n (n := 119) hx 2 (dq tX10_keepsCut 69 rfl) rfl rfl ?_
    have e_8 : M_3 (229 + 1) 1 = M (229 + 1) 1 := (f_4 (229 + 1) 1 (by omega))
    have e_9 : M_3 (229 + 1) 3 = M (229 + 1) 3 := (f_4 (229 + 1) 3 (by omega))
    refine g_iast (n := 120) (q := (M_3 (229 + 1) 12).toNat) hx (aX10_24 (b := 229) (by decide)) (dq tX10_keepsCut 70 rfl) rfl (by omega) (by omega) (by omega) rfl (by omega) (by omega) (fun M_10 m_11e m_11 => ?_)
    refine g_aload_n (n := 121) hx 1 (dq tX10_keepsCut 71 rfl) rfl rfl ?_
    refine g_getR (n := 124) hx glX10_82 (sX10_25 (by decide)) (dq tX10_keepsCut 72 rfl) rfl ?_
    refine g_iload (n := 126) hx 0 (dq tX10_keepsCut 73 rfl) rfl rfl ?_
    refine g_iload_n (n := 127) hx 3 (dq tX10_keepsCut 74 rfl) rfl rfl ?_
    have e_12 : M_10 (229 + 1) 1 = M_3 (229 + 1) 1 := (m_11 (229 + 1) 1 (by omega))
    have e_13 : M_10 (229 + 1) 3 = M_3 (229 + 1) 3 := (m_11 (229 + 1) 3 (by omega))
    refine g_iast (n := 128) (q := (M_3 (229 + 1) 12).toNat) hx (aX10_25 (b := 229) (by decide)) (dq tX10_keepsCut 75 rfl) rfl (by omega) (by omega) (by omega) rfl (by omega) (by omega) (fun M_14 m_15e m_15 => ?_)
    refine g_aload_n (n := 129) hx 1 (dq tX10_keepsCut 76 rfl) rfl rfl ?_
    refine g_getR (n := 132) hx glX10_85 (sX10_26 (by decide)) (dq tX10_keepsCut 77 rfl) rfl ?_
    refine g_iload (n := 134) hx 0 (dq tX10_keepsCut 78 rfl) rfl rfl ?_
    refine g_iload_n (n := 135) hx 4 (dq tX10_keepsCut 79 rfl) rfl rfl ?_
    have e_16 : M_14 (229 + 1) 1 = M_10 (229 + 1) 1 := (m_15 (229 + 1) 1 (by omega))
    have e_17 : M_14 (229 + 1) 3 = M_10 (229 + 1) 3 := (m_15 (229 + 1) 3 (by omega))
    refine g_iast (n := 136) (q := (M_3 (229 + 1) 12).toNat) hx (aX10_26 (b := 229) (by decide)) (dq tX10_keepsCut 80 rfl) rfl (by omega) (by omega) (by omega) rfl (by omega) (by omega) (fun M_18 m_19e m_19 => ?_)
    refine g_aload_n (n := 137) hx 1 (dq tX10_keepsCut 81 rfl) rfl rfl ?_
    refine g_getR (n := 140) hx glX10_88 (sX10_27 (by decide)) (dq tX10_keepsCut 82 rfl) rfl ?_
    refine g_iload (n := 142) hx 0 (dq tX10_keepsCut 83 rfl) rfl rfl ?_
    refine g_iload (n := 144) hx 5 (dq tX10_keepsCut 84 rfl) rfl rfl ?_
    have e_20 : M_18 (229 + 1) 1 = M_14 (229 + 1) 1 := (m_19 (229 + 1) 1 (by omega))
    have e_21 : M_18 (229 + 1) 3 = M_14 (229 + 1) 3 := (m_19 (229 + 1) 3 (by omega))
    refine g_iast (n := 145) (q := (M_3 (229 + 1) 12).toNat) hx (aX10_27 (b := 229) (by decide)) (dq tX10_keepsCut 85 rfl) rfl (by omega) (by omega) (by omega) rfl (by omega) (by omega) (fun M_22 m_23e m_23 => ?_)
    refine g_aload_n (n := 146) hx 1 (dq tX10_keepsCut 86 rfl) rfl rfl ?_
    refine g_getR (n := 149) hx glX10_9 (sX10_1 (by decide)) (dq tX10_keepsCut 87 rfl) rfl ?_
    refine g_bipush (n := 151) hx (dq tX10_keepsCut 88 rfl) rfl (by decide) ?_
    refine g_dup2 (n := 152) hx (dq tX10_keepsCut 89 rfl) rfl rfl rfl ?_
    refine g_ialdX (n := 153) (q := 12) hx (aX10_1 (b := 229) (by decide)) (dq tX10_keepsCut 90 rfl) rfl (by decide) (by decide) (by decide) rfl (fun h_24l h_24u => ?_)
    have h_24l : 0 ≤ M_22 (229 + 1) 12 := h_24l
    have h_24u : M_22 (229 + 1) 12 ≤ 12 := h_24u
    have e_25 : M_22 (229 + 1) 12 = M_3 (229 + 1) 12 := ((((m_23 (229 + 1) 12 (by omega))).trans (m_19 (229 + 1) 12 (by omega))).trans (m_15 (229 + 1) 12 (by omega))).trans (m_11 (229 + 1) 12 (by omega))
    refine g_iconst (n := 154) hx (dq tX10_keepsCut 91 rfl) rfl ?_
    refine g_iadd (n := 155) hx (dq tX10_keepsCut 92 rfl) rfl ?_
    have e_26 : M_22 (229 + 1) 1 = M_18 (229 + 1) 1 := (m_23 (229 + 1) 1 (by omega))
    have e_27 : M_22 (229 + 1) 3 = M_18 (229 + 1) 3 := (m_23 (229 + 1) 3 (by omega))
    refine g_iastX (n := 156) (q := 12) hx (aX10_1 (b := 229) (by decide)) (dq tX10_keepsCut 93 rfl) rfl (by decide) (by decide) (by decide) rfl (show 0 ≤ (M_22 (229 + 1) 12) + 1 by omega) (show (M_22 (229 + 1) 12) + 1 ≤ 12 by omega) (fun M_28 m_29e m_29 => ?_)
    have e_30 : M_28 (229 + 1) 1 = M_22 (229 + 1) 1 := (m_29 (229 + 1) 1 (by omega))
    have e_31 : M_28 (229 + 1) 3 = M_22 (229 + 1) 3 := (m_29 (229 + 1) 3 (by omega))
    exact g_vret hx hr (dq tX10_keepsCut 94 rfl) (fun u_ v_ huv_ => ((((((m_29 u_ v_ (by omega)).trans (m_23 u_ v_ (by omega))).trans (m_19 u_ v_ (by omega))).trans (m_15 u_ v_ (by omega))).trans (m_11 u_ v_ (by omega))).trans (f_4 u_ v_ (by omega))))
  refine g_icmp_ne (n := 12) (t := 103) hx (dq tX10_keepsCut 5 rfl) (by decide) rfl (zrI h_1l h_1u (by decide) (by decide)) ⟨by decide, by decide⟩ (fun c_2 => ?_) (fun c_2 => ?_)
  · exact J_5 M (fun _ _ _ => rfl) (by first | assumption | omega)
  · refine g_iconst (n := 13) hx (dq tX10_keepsCut 6 rfl) rfl ?_
    refine g_istore (n := 15) (lv' := [(5, vI 1), (0, aR Γ 229), (1, vI l), (2, vI at_), (3, vI v), (4, vI was)]) hx (dq tX10_keepsCut 7 rfl) (by decide) rfl rfl ?_
    have L_34 : ∀ (n_ : Nat) (i_32 : Int) (M_33 : zM), (1 ≤ i_32) → (i_32 ≤ 12) → (∀ u_ v_, u_ ≠ 229 + 27 ∧ u_ ≠ 229 + 26 ∧ u_ ≠ 229 + 25 ∧ u_ ≠ 229 + 24 → M_33 u_ v_ = M u_ v_) → ((12 - i_32).toNat = n_) → G Γ x 6 (QV Γ x (qctX10_keepsCut M l at_ v was)) M_33 15 [(5, vI i_32), (0, aR Γ 229), (1, vI l), (2, vI at_), (3, vI v), (4, vI was)] [] := by
      intro n_
      induction n_ using Nat.strongRecOn with
      | _ n_ ih_35 =>
        intro i_32 M_33 h_38 h_39 f_36 hm_37
        refine g_iload (n := 17) hx 0 (dq tX10_keepsCut 8 rfl) rfl rfl ?_
        refine g_bipush (n := 19) hx (dq tX10_keepsCut 9 rfl) rfl (by decide) ?_
        refine g_icmp_ge (n := 22) (t := 92) hx (dq tX10_keepsCut 10 rfl) (by decide) rfl ⟨by omega, by omega⟩ ⟨by decide, by decide⟩ (fun c_40 => ?_) (fun c_40 => ?_)
        · refine g_aload_n (n := 93) hx 1 (dq tX10_keepsCut 53 rfl) rfl rfl ?_
          refine g_getR (n := 96) hx glX10_9 (sX10_1 (by decide)) (dq tX10_keepsCut 54 rfl) rfl ?_
          refine g_bipush (n := 98) hx (dq tX10_keepsCut 55 rfl) rfl (by decide) ?_
          refine g_dup2 (n := 99) hx (dq tX10_keepsCut 56 rfl) rfl rfl rfl ?_
          refine g_ialdX (n := 100) (q := 12) hx (aX10_1 (b := 229) (by decide)) (dq tX10_keepsCut 57 rfl) rfl (by decide) (by decide) (by decide) rfl (fun h_41l h_41u => ?_)
          have h_41l : 0 ≤ M_33 (229 + 1) 12 := h_41l
          have h_41u : M_33 (229 + 1) 12 ≤ 12 := h_41u
          have e_42 : M_33 (229 + 1) 12 = M (229 + 1) 12 := (f_36 (229 + 1) 12 (by omega))
          refine g_iconst (n := 101) hx (dq tX10_keepsCut 58 rfl) rfl ?_
          refine g_isub (n := 102) hx (dq tX10_keepsCut 59 rfl) rfl ?_
          have e_43 : M_33 (229 + 1) 1 = M (229 + 1) 1 := (f_36 (229 + 1) 1 (by omega))
          have e_44 : M_33 (229 + 1) 3 = M (229 + 1) 3 := (f_36 (229 + 1) 3 (by omega))
          refine g_iastX (n := 103) (q := 12) hx (aX10_1 (b := 229) (by decide)) (dq tX10_keepsCut 60 rfl) rfl (by decide) (by decide) (by decide) rfl (show 0 ≤ (M_33 (229 + 1) 12) - 1 by omega) (show (M_33 (229 + 1) 12) - 1 ≤ 12 by omega) (fun M_45 m_46e m_46 => ?_)
          refine g_lv [1, 2, 3, 4, 5] rfl ?_
          exact J_5 M_45 (fun u_ v_ huv_ => ((m_46 u_ v_ (by omega)).trans (f_36 u_ v_ (by omega)))) (by first | assumption | omega)
        · refine g_aload_n (n := 23) hx 1 (dq tX10_keepsCut 11 rfl) rfl rfl ?_
          refine g_getR (n := 26) hx glX10_79 (sX10_24 (by decide)) (dq tX10_keepsCut 12 rfl) rfl ?_
          refine g_iload (n := 28) hx 0 (dq tX10_keepsCut 13 rfl) rfl rfl ?_
          refine g_iconst (n := 29) hx (dq tX10_keepsCut 14 rfl) rfl ?_
          refine g_isub (n := 30) hx (dq tX10_keepsCut 15 rfl) rfl ?_
          refine g_aload_n (n := 31) hx 1 (dq tX10_keepsCut 16 rfl) rfl rfl ?_
          refine g_getR (n := 34) hx glX10_79 (sX10_24 (by decide)) (dq tX10_keepsCut 17 rfl) rfl ?_
          refine g_iload (n := 36) hx 0 (dq tX10_keepsCut 18 rfl) rfl rfl ?_
          refine g_iald (n := 37) (q := i_32.toNat) hx (aX10_24 (b := 229) (by decide)) (dq tX10_keepsCut 19 rfl) rfl (by omega) (by omega) (by omega) rfl (fun h_47l h_47u => ?_)
          have e_48 : M_33 (229 + 1) 1 = M (229 + 1) 1 := (f_36 (229 + 1) 1 (by omega))
          have e_49 : M_33 (229 + 1) 3 = M (229 + 1) 3 := (f_36 (229 + 1) 3 (by omega))
          refine g_iast (n := 38) (q := (i_32 - 1).toNat) hx (aX10_24 (b := 229) (by decide)) (dq tX10_keepsCut 20 rfl) rfl (by omega) (by omega) (by omega) rfl (by omega) (by omega) (fun M_50 m_51e m_51 => ?_)
          refine g_aload_n (n := 39) hx 1 (dq tX10_keepsCut 21 rfl) rfl rfl ?_
          refine g_getR (n := 42) hx glX10_82 (sX10_25 (by decide)) (dq tX10_keepsCut 22 rfl) rfl ?_
          refine g_iload (n := 44) hx 0 (dq tX10_keepsCut 23 rfl) rfl rfl ?_
          refine g_iconst (n := 45) hx (dq tX10_keepsCut 24 rfl) rfl ?_
          refine g_isub (n := 46) hx (dq tX10_keepsCut 25 rfl) rfl ?_
          refine g_aload_n (n := 47) hx 1 (dq tX10_keepsCut 26 rfl) rfl rfl ?_
          refine g_getR (n := 50) hx glX10_82 (sX10_25 (by decide)) (dq tX10_keepsCut 27 rfl) rfl ?_
          refine g_iload (n := 52) hx 0 (dq tX10_keepsCut 28 rfl) rfl rfl ?_
          refine g_iald (n := 53) (q := i_32.toNat) hx (aX10_25 (b := 229) (by decide)) (dq tX10_keepsCut 29 rfl) rfl (by omega) (by omega) (by omega) rfl (fun h_52l h_52u => ?_)
          have e_53 : M_50 (229 + 1) 1 = M_33 (229 + 1) 1 := (m_51 (229 + 1) 1 (by omega))
          have e_54 : M_50 (229 + 1) 3 = M_33 (229 + 1) 3 := (m_51 (229 + 1) 3 (by omega))
          refine g_iast (n := 54) (q := (i_32 - 1).toNat) hx (aX10_25 (b := 229) (by decide)) (dq tX10_keepsCut 30 rfl) rfl (by omega) (by omega) (by omega) rfl (by omega) (by omega) (fun M_55 m_56e m_56 => ?_)
          refine g_aload_n (n := 55) hx 1 (dq tX10_keepsCut 31 rfl) rfl rfl ?_
          refine g_getR (n := 58) hx glX10_85 (sX10_26 (by decide)) (dq tX10_keepsCut 32 rfl) rfl ?_
          refine g_iload (n := 60) hx 0 (dq tX10_keepsCut 33 rfl) rfl rfl ?_
          refine g_iconst (n := 61) hx (dq tX10_keepsCut 34 rfl) rfl ?_
          refine g_isub (n := 62) hx (dq tX10_keepsCut 35 rfl) rfl ?_
          refine g_aload_n (n := 63) hx 1 (dq tX10_keepsCut 36 rfl) rfl rfl ?_
          refine g_getR (n := 66) hx glX10_85 (sX10_26 (by decide)) (dq tX10_keepsCut 37 rfl) rfl ?_
          refine g_iload (n := 68) hx 0 (dq tX10_keepsCut 38 rfl) rfl rfl ?_
          refine g_iald (n := 69) (q := i_32.toNat) hx (aX10_26 (b := 229) (by decide)) (dq tX10_keepsCut 39 rfl) rfl (by omega) (by omega) (by omega) rfl (fun h_57l h_57u => ?_)
          have e_58 : M_55 (229 + 1) 1 = M_50 (229 + 1) 1 := (m_56 (229 + 1) 1 (by omega))
          have e_59 : M_55 (229 + 1) 3 = M_50 (229 + 1) 3 := (m_56 (229 + 1) 3 (by omega))
          refine g_iast (n := 70) (q := (i_32 - 1).toNat) hx (aX10_26 (b := 229) (by decide)) (dq tX10_keepsCut 40 rfl) rfl (by omega) (by omega) (by omega) rfl (by omega) (by omega) (fun M_60 m_61e m_61 => ?_)
          refine g_aload_n (n := 71) hx 1 (dq tX10_keepsCut 41 rfl) rfl rfl ?_
          refine g_getR (n := 74) hx glX10_88 (sX10_27 (by decide)) (dq tX10_keepsCut 42 rfl) rfl ?_
          refine g_iload (n := 76) hx 0 (dq tX10_keepsCut 43 rfl) rfl rfl ?_
          refine g_iconst (n := 77) hx (dq tX10_keepsCut 44 rfl) rfl ?_
          refine g_isub (n := 78) hx (dq tX10_keepsCut 45 rfl) rfl ?_
          refine g_aload_n (n := 79) hx 1 (dq tX10_keepsCut 46 rfl) rfl rfl ?_
          refine g_getR (n := 82) hx glX10_88 (sX10_27 (by decide)) (dq tX10_keepsCut 47 rfl) rfl ?_
          refine g_iload (n := 84) hx 0 (dq tX10_keepsCut 48 rfl) rfl rfl ?_
          refine g_iald (n := 85) (q := i_32.toNat) hx (aX10_27 (b := 229) (by decide)) (dq tX10_keepsCut 49 rfl) rfl (by omega) (by omega) (by omega) rfl (fun h_62l h_62u => ?_)
          have e_63 : M_60 (229 + 1) 1 = M_55 (229 + 1) 1 := (m_61 (229 + 1) 1 (by omega))
          have e_64 : M_60 (229 + 1) 3 = M_55 (229 + 1) 3 := (m_61 (229 + 1) 3 (by omega))
          refine g_iast (n := 86) (q := (i_32 - 1).toNat) hx (aX10_27 (b := 229) (by decide)) (dq tX10_keepsCut 50 rfl) rfl (by omega) (by omega) (by omega) rfl (by omega) (by omega) (fun M_65 m_66e m_66 => ?_)
          refine g_iinc (n := 89) (lv' := [(5, vI (i_32 + 1)), (0, aR Γ 229), (1, vI l), (2, vI at_), (3, vI v), (4, vI was)]) hx 0 (dq tX10_keepsCut 51 rfl) rfl (by decide) rfl rfl ?_
          refine g_goto (n := 15) hx (dq tX10_keepsCut 52 rfl) (by decide) ?_
          have e_67 : M_65 (229 + 1) 1 = M_60 (229 + 1) 1 := (m_66 (229 + 1) 1 (by omega))
          have e_68 : M_65 (229 + 1) 3 = M_60 (229 + 1) 3 := (m_66 (229 + 1) 3 (by omega))
          exact ih_35 _ (by omega) (i_32 + 1) M_65 (by omega) (by omega) (fun u_ v_ huv_ => (((((m_66 u_ v_ (by omega)).trans (m_61 u_ v_ (by omega))).trans (m_56 u_ v_ (by omega))).trans (m_51 u_ v_ (by omega))).trans (f_36 u_ v_ (by omega)))) rfl
    exact L_34 _ 1 M (by omega) (by omega) (fun _ _ _ => rfl) rfl

abbrev qctX10_cut (M : zM) (l : Int) (v : Int) (z : Int) (M' : zM) : Prop := (∀ u_ v_, u_ ≠ 229 + 24 ∧ u_ ≠ 229 + 25 ∧ u_ ≠ 229 + 26 ∧ u_ ≠ 229 + 27 ∧ (u_ ≠ 229 + 1 ∨ v_ ≠ 12) ∧ u_ ≠ 229 + 18 ∧ u_ ≠ 229 + 13 → M' u_ v_ = M u_ v_) ∧ Gm M'
set_option maxHeartbeats 4000000 in
set_option maxRecDepth 100000 in
theorem ctX10_cut (Γ : Gam) (M : zM) (l : Int) (hll : (-2147483648) ≤ l) (hlu : l ≤ 2147483647) (v : Int) (hvl : (-2147483648) ≤ v) (hvu : v ≤ 2147483647) (gm : Gm M) : CtI Γ yX10_cut cX10_cut 3 (some .int) 3 68 [aR Γ 229, vI l, vI v] M (qctX10_cut M l v) := by
  refine met_i (by decide) (Nat.le_of_ble_eq_true rfl) (fun x hx hr => ?_)
  show G Γ x 3 (QI Γ x (qctX10_cut M l v)) M 0 [(0, aR Γ 229), (1, vI l), (2, vI v)] []
  refine g_aload_n (n := 1) hx 0 (dq tX10_cut 0 rfl) rfl rfl ?_
  refine g_iload_n (n := 2) hx 1 (dq tX10_cut 1 rfl) rfl rfl ?_
  refine g_iload_n (n := 3) hx 2 (dq tX10_cut 2 rfl) rfl rfl ?_
  refine g_callVi (n := 6) (As := [vI l, vI v]) (rest := []) hx (ctX10_mayCut Γ M l (by omega) (by omega) v (by omega) (by omega) gm) mlX10_492 (obX10 (by decide)) (dq tX10_cut 3 rfl) rfl (Nat.le_of_ble_eq_true rfl) (Nat.le_of_ble_eq_true rfl) (Nat.le_of_ble_eq_true rfl) rfl (fun z_1 M_2 h_3 p_4 => ?_)
  obtain ⟨rfl, b_6⟩ := p_4
  refine g_if_eq (n := 9) (t := 20) hx (dq tX10_cut 4 rfl) (by decide) rfl h_3 (fun c_13 => ?_) (fun c_13 => ?_)
  · clear b_6
    refine g_bipush (n := 22) hx (dq tX10_cut 11 rfl) rfl (by decide) ?_
    exact g_iret hx hr (dq tX10_cut 12 rfl) ⟨by decide, by decide⟩ ⟨(fun _ _ _ => rfl), gm⟩
  · have b_6 := b_6.resolve_left c_13
    obtain ⟨-, h_7, h_8, h_9, h_10, h_11, h_12⟩ := b_6
    refine g_aload_n (n := 10) hx 0 (dq tX10_cut 5 rfl) rfl rfl ?_
    refine g_getR (n := 13) hx glX10_46 (sX10_13 (by decide)) (dq tX10_cut 6 rfl) rfl ?_
    refine g_iload_n (n := 14) hx 1 (dq tX10_cut 7 rfl) rfl rfl ?_
    refine g_iald (n := 15) (q := l.toNat) hx (aX10_13 (b := 229) (by decide)) (dq tX10_cut 8 rfl) rfl (by omega) (by omega) (by omega) rfl (fun h_14l h_14u => ?_)
    refine g_bipush (n := 17) hx (dq tX10_cut 9 rfl) rfl (by decide) ?_
    refine g_icmp_ne (n := 20) (t := 23) hx (dq tX10_cut 10 rfl) (by decide) rfl (zrI h_14l h_14u (by decide) (by decide)) ⟨by decide, by decide⟩ (fun c_15 => ?_) (fun c_15 => ?_)
    · refine g_aload_n (n := 24) hx 0 (dq tX10_cut 13 rfl) rfl rfl ?_
      refine g_iload_n (n := 25) hx 1 (dq tX10_cut 14 rfl) rfl rfl ?_
      refine g_aload_n (n := 26) hx 0 (dq tX10_cut 15 rfl) rfl rfl ?_
      refine g_getR (n := 29) hx glX10_46 (sX10_13 (by decide)) (dq tX10_cut 16 rfl) rfl ?_
      refine g_iload_n (n := 30) hx 1 (dq tX10_cut 17 rfl) rfl rfl ?_
      refine g_iald (n := 31) (q := l.toNat) hx (aX10_13 (b := 229) (by decide)) (dq tX10_cut 18 rfl) rfl (by omega) (by omega) (by omega) rfl (fun h_16l h_16u => ?_)
      refine g_iload_n (n := 32) hx 2 (dq tX10_cut 19 rfl) rfl rfl ?_
      refine g_iconst (n := 33) hx (dq tX10_cut 20 rfl) rfl ?_
      refine g_callVv (n := 36) (As := [vI l, vI (M (229 + 13) l.toNat), vI v, vI (-1)]) (rest := []) hx (ctX10_keepsCut Γ M l (by omega) (by omega) (M (229 + 13) l.toNat) (by omega) (by omega) v (by omega) (by omega) (-1) (by decide) (by decide)) mlX10_495 (obX10 (by decide)) (dq tX10_cut 21 rfl) rfl (Nat.le_of_ble_eq_true rfl) (Nat.le_of_ble_eq_true rfl) (Nat.le_of_ble_eq_true rfl) rfl (fun M_18 p_20 => ?_)
      have f_21 := p_20
      have g_22 : Gm M_18 := Gm.frame gm (fun c j hcj => f_21 c j (by omega))
      refine g_aload_n (n := 37) hx 0 (dq tX10_cut 22 rfl) rfl rfl ?_
      refine g_getR (n := 40) hx glX10_61 (sX10_18 (by decide)) (dq tX10_cut 23 rfl) rfl ?_
      refine g_bipush (n := 42) hx (dq tX10_cut 24 rfl) rfl (by decide) ?_
      refine g_iload_n (n := 43) hx 1 (dq tX10_cut 25 rfl) rfl rfl ?_
      refine g_imul (n := 44) hx (dq tX10_cut 26 rfl) rfl ?_
      refine g_aload_n (n := 45) hx 0 (dq tX10_cut 27 rfl) rfl rfl ?_
      refine g_getR (n := 48) hx glX10_46 (sX10_13 (by decide)) (dq tX10_cut 28 rfl) rfl ?_
      refine g_iload_n (n := 49) hx 1 (dq tX10_cut 29 rfl) rfl rfl ?_
      refine g_iald (n := 50) (q := l.toNat) hx (aX10_13 (b := 229) (by decide)) (dq tX10_cut 30 rfl) rfl (by omega) (by omega) (by omega) rfl (fun h_23l h_23u => ?_)
      have e_24 : M_18 (229 + 13) l.toNat = M (229 + 13) l.toNat := (f_21 (229 + 13) l.toNat (by omega))
      refine g_iadd (n := 51) hx (dq tX10_cut 31 rfl) rfl ?_
      refine g_iload_n (n := 52) hx 2 (dq tX10_cut 32 rfl) rfl rfl ?_
      have e_25 : M_18 (229 + 1) 1 = M (229 + 1) 1 := (f_21 (229 + 1) 1 (by omega))
      have e_26 : M_18 (229 + 1) 3 = M (229 + 1) 3 := (f_21 (229 + 1) 3 (by omega))
      refine g_iast (n := 53) (q := ((6 * l) + (M_18 (229 + 13) l.toNat)).toNat) hx (aX10_18 (b := 229) (by decide)) (dq tX10_cut 33 rfl) rfl (by omega) (by omega) (by omega) rfl (by omega) (by omega) (fun M_27 m_28e m_28 => ?_)
      have g_29 := Gm.notch g_22 m_28e m_28 (by omega) (by omega)
      refine g_aload_n (n := 54) hx 0 (dq tX10_cut 34 rfl) rfl rfl ?_
      refine g_getR (n := 57) hx glX10_46 (sX10_13 (by decide)) (dq tX10_cut 35 rfl) rfl ?_
      refine g_iload_n (n := 58) hx 1 (dq tX10_cut 36 rfl) rfl rfl ?_
      refine g_dup2 (n := 59) hx (dq tX10_cut 37 rfl) rfl rfl rfl ?_
      refine g_iald (n := 60) (q := l.toNat) hx (aX10_13 (b := 229) (by decide)) (dq tX10_cut 38 rfl) rfl (by omega) (by omega) (by omega) rfl (fun h_30l h_30u => ?_)
      have e_31 : M_27 (229 + 13) l.toNat = M_18 (229 + 13) l.toNat := (m_28 (229 + 13) l.toNat (by omega))
      refine g_iconst (n := 61) hx (dq tX10_cut 39 rfl) rfl ?_
      refine g_iadd (n := 62) hx (dq tX10_cut 40 rfl) rfl ?_
      have e_32 : M_27 (229 + 1) 1 = M_18 (229 + 1) 1 := (m_28 (229 + 1) 1 (by omega))
      have e_33 : M_27 (229 + 1) 3 = M_18 (229 + 1) 3 := (m_28 (229 + 1) 3 (by omega))
      refine g_iast (n := 63) (q := l.toNat) hx (aX10_13 (b := 229) (by decide)) (dq tX10_cut 41 rfl) rfl (by omega) (by omega) (by omega) rfl (by omega) (by omega) (fun M_34 m_35e m_35 => ?_)
      have g_36 : Gm M_34 := Gm.frame g_29 (fun c j hcj => m_35 c j (by omega))
      refine g_aload_n (n := 64) hx 0 (dq tX10_cut 42 rfl) rfl rfl ?_
      refine g_getR (n := 67) hx glX10_46 (sX10_13 (by decide)) (dq tX10_cut 43 rfl) rfl ?_
      refine g_iload_n (n := 68) hx 1 (dq tX10_cut 44 rfl) rfl rfl ?_
      refine g_iald (n := 69) (q := l.toNat) hx (aX10_13 (b := 229) (by decide)) (dq tX10_cut 45 rfl) rfl (by omega) (by omega) (by omega) rfl (fun h_37l h_37u => ?_)
      have e_38 : M_34 (229 + 1) 1 = M_27 (229 + 1) 1 := (m_35 (229 + 1) 1 (by omega))
      have e_39 : M_34 (229 + 1) 3 = M_27 (229 + 1) 3 := (m_35 (229 + 1) 3 (by omega))
      exact g_iret hx hr (dq tX10_cut 46 rfl) (zrI h_37l h_37u (by decide) (by decide)) ⟨(fun u_ v_ huv_ => (((m_35 u_ v_ (by omega)).trans (m_28 u_ v_ (by omega))).trans (f_21 u_ v_ (by omega)))), g_36⟩
    · refine g_bipush (n := 22) hx (dq tX10_cut 11 rfl) rfl (by decide) ?_
      exact g_iret hx hr (dq tX10_cut 12 rfl) ⟨by decide, by decide⟩ ⟨(fun _ _ _ => rfl), gm⟩

abbrev qctX10_cutOver (M : zM) (l : Int) (at_ : Int) (v : Int) (z : Int) (M' : zM) : Prop := (∀ u_ v_, u_ ≠ 229 + 24 ∧ u_ ≠ 229 + 25 ∧ u_ ≠ 229 + 26 ∧ u_ ≠ 229 + 27 ∧ (u_ ≠ 229 + 1 ∨ v_ ≠ 12) ∧ u_ ≠ 229 + 18 → M' u_ v_ = M u_ v_) ∧ Gm M'
set_option maxHeartbeats 4000000 in
set_option maxRecDepth 100000 in
theorem ctX10_cutOver (Γ : Gam) (M : zM) (l : Int) (hll : (-2147483648) ≤ l) (hlu : l ≤ 2147483647) (at_ : Int) (hat_l : (-2147483648) ≤ at_) (hat_u : at_ ≤ 2147483647) (v : Int) (hvl : (-2147483648) ≤ v) (hvu : v ≤ 2147483647) (gm : Gm M) : CtI Γ yX10_cutOver cX10_cutOver 5 (some .int) 3 68 [aR Γ 229, vI l, vI at_, vI v] M (qctX10_cutOver M l at_ v) := by
  refine met_i (by decide) (Nat.le_of_ble_eq_true rfl) (fun x hx hr => ?_)
  show G Γ x 5 (QI Γ x (qctX10_cutOver M l at_ v)) M 0 [(0, aR Γ 229), (1, vI l), (2, vI at_), (3, vI v)] []
  refine g_aload_n (n := 1) hx 0 (dq tX10_cutOver 0 rfl) rfl rfl ?_
  refine g_iload_n (n := 2) hx 1 (dq tX10_cutOver 1 rfl) rfl rfl ?_
  refine g_iload_n (n := 3) hx 3 (dq tX10_cutOver 2 rfl) rfl rfl ?_
  refine g_callVi (n := 6) (As := [vI l, vI v]) (rest := []) hx (ctX10_mayCut Γ M l (by omega) (by omega) v (by omega) (by omega) gm) mlX10_492 (obX10 (by decide)) (dq tX10_cutOver 3 rfl) rfl (Nat.le_of_ble_eq_true rfl) (Nat.le_of_ble_eq_true rfl) (Nat.le_of_ble_eq_true rfl) rfl (fun z_1 M_2 h_3 p_4 => ?_)
  obtain ⟨rfl, b_6⟩ := p_4
  refine g_if_eq (n := 9) (t := 42) hx (dq tX10_cutOver 4 rfl) (by decide) rfl h_3 (fun c_13 => ?_) (fun c_13 => ?_)
  · clear b_6
    refine g_bipush (n := 44) hx (dq tX10_cutOver 27 rfl) rfl (by decide) ?_
    exact g_iret hx hr (dq tX10_cutOver 28 rfl) ⟨by decide, by decide⟩ ⟨(fun _ _ _ => rfl), gm⟩
  · have b_6 := b_6.resolve_left c_13
    obtain ⟨-, h_7, h_8, h_9, h_10, h_11, h_12⟩ := b_6
    refine g_iload_n (n := 10) hx 2 (dq tX10_cutOver 5 rfl) rfl rfl ?_
    refine g_i2l (n := 11) hx (dq tX10_cutOver 6 rfl) rfl (zrI hat_l hat_u (by decide) (by decide)) ?_
    refine g_lconst (n := 12) (z := 0) hx (dq tX10_cutOver 7 rfl) rfl (by decide) ?_
    refine g_aload_n (n := 13) hx 0 (dq tX10_cutOver 8 rfl) rfl rfl ?_
    refine g_getR (n := 16) hx glX10_46 (sX10_13 (by decide)) (dq tX10_cutOver 9 rfl) rfl ?_
    refine g_iload_n (n := 17) hx 1 (dq tX10_cutOver 10 rfl) rfl rfl ?_
    refine g_iald (n := 18) (q := l.toNat) hx (aX10_13 (b := 229) (by decide)) (dq tX10_cutOver 11 rfl) rfl (by omega) (by omega) (by omega) rfl (fun h_14l h_14u => ?_)
    refine g_iconst (n := 19) hx (dq tX10_cutOver 12 rfl) rfl ?_
    refine g_isub (n := 20) hx (dq tX10_cutOver 13 rfl) rfl ?_
    refine g_i2l (n := 21) hx (dq tX10_cutOver 14 rfl) rfl ⟨by omega, by omega⟩ ?_
    refine g_callSi (n := 24) (As := [vL at_, vL 0, vL ((M (229 + 13) l.toNat) - 1)]) (rest := []) hx (ctX10_in Γ M at_ (by omega) (by omega) 0 (by omega) (by omega) ((M (229 + 13) l.toNat) - 1) (by omega) (by omega)) mlX10_191 (dq tX10_cutOver 15 rfl) rfl (Nat.le_of_ble_eq_true rfl) (Nat.le_of_ble_eq_true rfl) (Nat.le_of_ble_eq_true rfl) rfl (fun z_15 M_16 h_17 p_18 => ?_)
    obtain ⟨rfl, b_20, h_21⟩ := p_18
    refine g_if_eq (n := 27) (t := 42) hx (dq tX10_cutOver 16 rfl) (by decide) rfl h_17 (fun c_24 => ?_) (fun c_24 => ?_)
    · clear b_20
      refine g_bipush (n := 44) hx (dq tX10_cutOver 27 rfl) rfl (by decide) ?_
      exact g_iret hx hr (dq tX10_cutOver 28 rfl) ⟨by decide, by decide⟩ ⟨(fun _ _ _ => rfl), gm⟩
    · have b_20 := b_20.resolve_left c_24
      obtain ⟨-, h_22, h_23⟩ := b_20
      refine g_aload_n (n := 28) hx 0 (dq tX10_cutOver 17 rfl) rfl rfl ?_
      refine g_getR (n := 31) hx glX10_61 (sX10_18 (by decide)) (dq tX10_cutOver 18 rfl) rfl ?_
      refine g_bipush (n := 33) hx (dq tX10_cutOver 19 rfl) rfl (by decide) ?_
      refine g_iload_n (n := 34) hx 1 (dq tX10_cutOver 20 rfl) rfl rfl ?_
      refine g_imul (n := 35) hx (dq tX10_cutOver 21 rfl) rfl ?_
      refine g_iload_n (n := 36) hx 2 (dq tX10_cutOver 22 rfl) rfl rfl ?_
      refine g_iadd (n := 37) hx (dq tX10_cutOver 23 rfl) rfl ?_
      refine g_iald (n := 38) (q := ((6 * l) + at_).toNat) hx (aX10_18 (b := 229) (by decide)) (dq tX10_cutOver 24 rfl) rfl (by omega) (by omega) (by omega) rfl (fun h_25l h_25u => ?_)
      refine g_iv (fun h_27 => ?_)
      have h_27v : (0 : Int) ≤ M (229 + 1) 1 ∧ M (229 + 1) 1 ≤ 6 := h_27 230 1
      have h_27l : (0 : Int) ≤ M (229 + 1) 3 ∧ M (229 + 1) 3 ≤ 12 := h_27 230 3
      clear h_27
      have h_26 := gm.2.2.2.1 (((6 * l) + at_).toNat) (by omega)
      refine g_iload_n (n := 39) hx 3 (dq tX10_cutOver 25 rfl) rfl rfl ?_
      refine g_icmp_ne (n := 42) (t := 45) hx (dq tX10_cutOver 26 rfl) (by decide) rfl (zrI h_25l h_25u (by decide) (by decide)) (zrI hvl hvu (by decide) (by decide)) (fun c_28 => ?_) (fun c_28 => ?_)
      · refine g_aload_n (n := 46) hx 0 (dq tX10_cutOver 29 rfl) rfl rfl ?_
        refine g_getR (n := 49) hx glX10_61 (sX10_18 (by decide)) (dq tX10_cutOver 30 rfl) rfl ?_
        refine g_bipush (n := 51) hx (dq tX10_cutOver 31 rfl) rfl (by decide) ?_
        refine g_iload_n (n := 52) hx 1 (dq tX10_cutOver 32 rfl) rfl rfl ?_
        refine g_imul (n := 53) hx (dq tX10_cutOver 33 rfl) rfl ?_
        refine g_iload_n (n := 54) hx 2 (dq tX10_cutOver 34 rfl) rfl rfl ?_
        refine g_iadd (n := 55) hx (dq tX10_cutOver 35 rfl) rfl ?_
        refine g_iald (n := 56) (q := ((6 * l) + at_).toNat) hx (aX10_18 (b := 229) (by decide)) (dq tX10_cutOver 36 rfl) rfl (by omega) (by omega) (by omega) rfl (fun h_29l h_29u => ?_)
        refine g_iv (fun h_31 => ?_)
        have h_31v : (0 : Int) ≤ M (229 + 1) 1 ∧ M (229 + 1) 1 ≤ 6 := h_31 230 1
        have h_31l : (0 : Int) ≤ M (229 + 1) 3 ∧ M (229 + 1) 3 ≤ 12 := h_31 230 3
        clear h_31
        have h_30 := gm.2.2.2.1 (((6 * l) + at_).toNat) (by omega)
        refine g_istore (n := 58) (lv' := [(4, vI (M (229 + 18) (((6 * l) + at_).toNat))), (0, aR Γ 229), (1, vI l), (2, vI at_), (3, vI v)]) hx (dq tX10_cutOver 37 rfl) (by decide) rfl rfl ?_
        refine g_aload_n (n := 59) hx 1 (dq tX10_cutOver 38 rfl) rfl rfl ?_
        refine g_iload_n (n := 60) hx 2 (dq tX10_cutOver 39 rfl) rfl rfl ?_
        refine g_iload_n (n := 61) hx 3 (dq tX10_cutOver 40 rfl) rfl rfl ?_
        refine g_iload_n (n := 62) hx 4 (dq tX10_cutOver 41 rfl) rfl rfl ?_
        refine g_iload (n := 64) hx 0 (dq tX10_cutOver 42 rfl) rfl rfl ?_
        refine g_callVv (n := 67) (As := [vI l, vI at_, vI v, vI (M (229 + 18) (((6 * l) + at_).toNat))]) (rest := []) hx (ctX10_keepsCut Γ M l (by omega) (by omega) at_ (by omega) (by omega) v (by omega) (by omega) (M (229 + 18) (((6 * l) + at_).toNat)) (by omega) (by omega)) mlX10_495 (obX10 (by decide)) (dq tX10_cutOver 43 rfl) rfl (Nat.le_of_ble_eq_true rfl) (Nat.le_of_ble_eq_true rfl) (Nat.le_of_ble_eq_true rfl) rfl (fun M_33 p_35 => ?_)
        have f_36 := p_35
        have g_37 : Gm M_33 := Gm.frame gm (fun c j hcj => f_36 c j (by omega))
        refine g_aload_n (n := 68) hx 1 (dq tX10_cutOver 44 rfl) rfl rfl ?_
        refine g_getR (n := 71) hx glX10_61 (sX10_18 (by decide)) (dq tX10_cutOver 45 rfl) rfl ?_
        refine g_bipush (n := 73) hx (dq tX10_cutOver 46 rfl) rfl (by decide) ?_
        refine g_iload_n (n := 74) hx 2 (dq tX10_cutOver 47 rfl) rfl rfl ?_
        refine g_imul (n := 75) hx (dq tX10_cutOver 48 rfl) rfl ?_
        refine g_iload_n (n := 76) hx 3 (dq tX10_cutOver 49 rfl) rfl rfl ?_
        refine g_iadd (n := 77) hx (dq tX10_cutOver 50 rfl) rfl ?_
        refine g_iload_n (n := 78) hx 4 (dq tX10_cutOver 51 rfl) rfl rfl ?_
        have e_38 : M_33 (229 + 1) 1 = M (229 + 1) 1 := (f_36 (229 + 1) 1 (by omega))
        have e_39 : M_33 (229 + 1) 3 = M (229 + 1) 3 := (f_36 (229 + 1) 3 (by omega))
        refine g_iast (n := 79) (q := ((6 * l) + at_).toNat) hx (aX10_18 (b := 229) (by decide)) (dq tX10_cutOver 52 rfl) rfl (by omega) (by omega) (by omega) rfl (by omega) (by omega) (fun M_40 m_41e m_41 => ?_)
        have g_42 := Gm.notch g_37 m_41e m_41 (by omega) (by omega)
        refine g_iload (n := 81) hx 0 (dq tX10_cutOver 53 rfl) rfl rfl ?_
        have e_43 : M_40 (229 + 1) 1 = M_33 (229 + 1) 1 := (m_41 (229 + 1) 1 (by omega))
        have e_44 : M_40 (229 + 1) 3 = M_33 (229 + 1) 3 := (m_41 (229 + 1) 3 (by omega))
        exact g_iret hx hr (dq tX10_cutOver 54 rfl) (zrI h_29l h_29u (by decide) (by decide)) ⟨(fun u_ v_ huv_ => ((m_41 u_ v_ (by omega)).trans (f_36 u_ v_ (by omega)))), g_42⟩
      · refine g_bipush (n := 44) hx (dq tX10_cutOver 27 rfl) rfl (by decide) ?_
        exact g_iret hx hr (dq tX10_cutOver 28 rfl) ⟨by decide, by decide⟩ ⟨(fun _ _ _ => rfl), gm⟩

abbrev qctX10_undo (M : zM)  (z : Int) (M' : zM) : Prop := (∀ u_ v_, u_ ≠ 229 + 18 ∧ u_ ≠ 229 + 13 ∧ (u_ ≠ 229 + 1 ∨ v_ ≠ 12) → M' u_ v_ = M u_ v_) ∧ Gm M'
set_option maxHeartbeats 4000000 in
set_option maxRecDepth 100000 in
theorem ctX10_undo (Γ : Gam) (M : zM)  (gm : Gm M) : CtI Γ yX10_undo cX10_undo 5 (some .int) 0 0 [aR Γ 229] M (qctX10_undo M) := by
  refine met_i (by decide) (Nat.le_of_ble_eq_true rfl) (fun x hx hr => ?_)
  show G Γ x 5 (QI Γ x (qctX10_undo M)) M 0 [(0, aR Γ 229)] []
  refine g_aload_n (n := 1) hx 0 (dq tX10_undo 0 rfl) rfl rfl ?_
  refine g_getR (n := 4) hx glX10_9 (sX10_1 (by decide)) (dq tX10_undo 1 rfl) rfl ?_
  refine g_bipush (n := 6) hx (dq tX10_undo 2 rfl) rfl (by decide) ?_
  refine g_ialdX (n := 7) (q := 12) hx (aX10_1 (b := 229) (by decide)) (dq tX10_undo 3 rfl) rfl (by decide) (by decide) (by decide) rfl (fun h_1l h_1u => ?_)
  have h_1l : 0 ≤ M (229 + 1) 12 := h_1l
  have h_1u : M (229 + 1) 12 ≤ 12 := h_1u
  refine g_iconst (n := 8) hx (dq tX10_undo 4 rfl) rfl ?_
  refine g_isub (n := 9) hx (dq tX10_undo 5 rfl) rfl ?_
  refine g_istore_n (n := 10) (lv' := [(1, vI ((M (229 + 1) 12) - 1)), (0, aR Γ 229)]) hx (dq tX10_undo 6 rfl) (by decide) rfl rfl ?_
  refine g_iload_n (n := 11) hx 0 (dq tX10_undo 7 rfl) rfl rfl ?_
  refine g_if_ge (n := 14) (t := 17) hx (dq tX10_undo 8 rfl) (by decide) rfl ⟨by omega, by omega⟩ (fun c_2 => ?_) (fun c_2 => ?_)
  · refine g_aload_n (n := 18) hx 1 (dq tX10_undo 11 rfl) rfl rfl ?_
    refine g_getR (n := 21) hx glX10_79 (sX10_24 (by decide)) (dq tX10_undo 12 rfl) rfl ?_
    refine g_iload_n (n := 22) hx 0 (dq tX10_undo 13 rfl) rfl rfl ?_
    refine g_iald (n := 23) (q := ((M (229 + 1) 12) - 1).toNat) hx (aX10_24 (b := 229) (by decide)) (dq tX10_undo 14 rfl) rfl (by omega) (by omega) (by omega) rfl (fun h_3l h_3u => ?_)
    refine g_istore_n (n := 24) (lv' := [(2, vI (M (229 + 24) (((M (229 + 1) 12) - 1).toNat))), (1, vI ((M (229 + 1) 12) - 1)), (0, aR Γ 229)]) hx (dq tX10_undo 15 rfl) (by decide) rfl rfl ?_
    refine g_aload_n (n := 25) hx 2 (dq tX10_undo 16 rfl) rfl rfl ?_
    refine g_getR (n := 28) hx glX10_82 (sX10_25 (by decide)) (dq tX10_undo 17 rfl) rfl ?_
    refine g_iload_n (n := 29) hx 1 (dq tX10_undo 18 rfl) rfl rfl ?_
    refine g_iald (n := 30) (q := ((M (229 + 1) 12) - 1).toNat) hx (aX10_25 (b := 229) (by decide)) (dq tX10_undo 19 rfl) rfl (by omega) (by omega) (by omega) rfl (fun h_4l h_4u => ?_)
    refine g_aload_n (n := 31) hx 2 (dq tX10_undo 20 rfl) rfl rfl ?_
    refine g_getR (n := 34) hx glX10_46 (sX10_13 (by decide)) (dq tX10_undo 21 rfl) rfl ?_
    refine g_iload_n (n := 35) hx 0 (dq tX10_undo 22 rfl) rfl rfl ?_
    refine g_iald (n := 36) (q := (M (229 + 24) (((M (229 + 1) 12) - 1).toNat)).toNat) hx (aX10_13 (b := 229) (by decide)) (dq tX10_undo 23 rfl) rfl (by omega) (by omega) (by omega) rfl (fun h_5l h_5u => ?_)
    refine g_icmp_ge (n := 39) (t := 68) hx (dq tX10_undo 24 rfl) (by decide) rfl (zrI h_4l h_4u (by decide) (by decide)) (zrI h_5l h_5u (by decide) (by decide)) (fun c_6 => ?_) (fun c_6 => ?_)
    · refine g_iconst (n := 69) hx (dq tX10_undo 43 rfl) rfl ?_
      refine g_istore_n (n := 70) (lv' := [(3, vI 0), (2, vI (M (229 + 24) (((M (229 + 1) 12) - 1).toNat))), (1, vI ((M (229 + 1) 12) - 1)), (0, aR Γ 229)]) hx (dq tX10_undo 44 rfl) (by decide) rfl rfl ?_
      refine g_aload_n (n := 71) hx 3 (dq tX10_undo 45 rfl) rfl rfl ?_
      refine g_getR (n := 74) hx glX10_88 (sX10_27 (by decide)) (dq tX10_undo 46 rfl) rfl ?_
      refine g_iload_n (n := 75) hx 2 (dq tX10_undo 47 rfl) rfl rfl ?_
      refine g_iald (n := 76) (q := ((M (229 + 1) 12) - 1).toNat) hx (aX10_27 (b := 229) (by decide)) (dq tX10_undo 48 rfl) rfl (by omega) (by omega) (by omega) rfl (fun h_7l h_7u => ?_)
      refine g_iconst (n := 77) hx (dq tX10_undo 49 rfl) rfl ?_
      refine g_icmp_ne (n := 80) (t := 84) hx (dq tX10_undo 50 rfl) (by decide) rfl (zrI h_7l h_7u (by decide) (by decide)) ⟨by decide, by decide⟩ (fun c_8 => ?_) (fun c_8 => ?_)
      · refine g_iconst (n := 85) hx (dq tX10_undo 53 rfl) rfl ?_
        refine g_istore (n := 87) (lv' := [(4, vI 0), (3, vI 0), (2, vI (M (229 + 24) (((M (229 + 1) 12) - 1).toNat))), (1, vI ((M (229 + 1) 12) - 1)), (0, aR Γ 229)]) hx (dq tX10_undo 54 rfl) (by decide) rfl rfl ?_
        refine g_iload_n (n := 88) hx 1 (dq tX10_undo 55 rfl) rfl rfl ?_
        refine g_if_eq (n := 91) (t := 113) hx (dq tX10_undo 56 rfl) (by decide) rfl ⟨by decide, by decide⟩ (fun c_9 => ?_) (fun c_9 => ?_)
        · refine g_bipush (n := 115) hx (dq tX10_undo 70 rfl) rfl (by decide) ?_
          exact g_iret hx hr (dq tX10_undo 71 rfl) ⟨by decide, by decide⟩ ⟨(fun _ _ _ => rfl), gm⟩
        · omega
      · refine g_iconst (n := 81) hx (dq tX10_undo 51 rfl) rfl ?_
        refine g_goto (n := 85) hx (dq tX10_undo 52 rfl) (by decide) ?_
        refine g_istore (n := 87) (lv' := [(4, vI 1), (3, vI 0), (2, vI (M (229 + 24) (((M (229 + 1) 12) - 1).toNat))), (1, vI ((M (229 + 1) 12) - 1)), (0, aR Γ 229)]) hx (dq tX10_undo 54 rfl) (by decide) rfl rfl ?_
        refine g_iload_n (n := 88) hx 1 (dq tX10_undo 55 rfl) rfl rfl ?_
        refine g_if_eq (n := 91) (t := 113) hx (dq tX10_undo 56 rfl) (by decide) rfl ⟨by decide, by decide⟩ (fun c_10 => ?_) (fun c_10 => ?_)
        · refine g_bipush (n := 115) hx (dq tX10_undo 70 rfl) rfl (by decide) ?_
          exact g_iret hx hr (dq tX10_undo 71 rfl) ⟨by decide, by decide⟩ ⟨(fun _ _ _ => rfl), gm⟩
        · omega
    · refine g_aload_n (n := 40) hx 2 (dq tX10_undo 25 rfl) rfl rfl ?_
      refine g_getR (n := 43) hx glX10_61 (sX10_18 (by decide)) (dq tX10_undo 26 rfl) rfl ?_
      refine g_bipush (n := 45) hx (dq tX10_undo 27 rfl) rfl (by decide) ?_
      refine g_iload_n (n := 46) hx 0 (dq tX10_undo 28 rfl) rfl rfl ?_
      refine g_imul (n := 47) hx (dq tX10_undo 29 rfl) rfl ?_
      refine g_aload_n (n := 48) hx 2 (dq tX10_undo 30 rfl) rfl rfl ?_
      refine g_getR (n := 51) hx glX10_82 (sX10_25 (by decide)) (dq tX10_undo 31 rfl) rfl ?_
      refine g_iload_n (n := 52) hx 1 (dq tX10_undo 32 rfl) rfl rfl ?_
      refine g_iald (n := 53) (q := ((M (229 + 1) 12) - 1).toNat) hx (aX10_25 (b := 229) (by decide)) (dq tX10_undo 33 rfl) rfl (by omega) (by omega) (by omega) rfl (fun h_11l h_11u => ?_)
      refine g_iadd (n := 54) hx (dq tX10_undo 34 rfl) rfl ?_
      refine g_iald (n := 55) (q := ((6 * (M (229 + 24) (((M (229 + 1) 12) - 1).toNat))) + (M (229 + 25) (((M (229 + 1) 12) - 1).toNat))).toNat) hx (aX10_18 (b := 229) (by decide)) (dq tX10_undo 35 rfl) rfl (by omega) (by omega) (by omega) rfl (fun h_12l h_12u => ?_)
      refine g_aload_n (n := 56) hx 2 (dq tX10_undo 36 rfl) rfl rfl ?_
      refine g_getR (n := 59) hx glX10_85 (sX10_26 (by decide)) (dq tX10_undo 37 rfl) rfl ?_
      refine g_iload_n (n := 60) hx 1 (dq tX10_undo 38 rfl) rfl rfl ?_
      refine g_iald (n := 61) (q := ((M (229 + 1) 12) - 1).toNat) hx (aX10_26 (b := 229) (by decide)) (dq tX10_undo 39 rfl) rfl (by omega) (by omega) (by omega) rfl (fun h_13l h_13u => ?_)
      refine g_icmp_ne (n := 64) (t := 68) hx (dq tX10_undo 40 rfl) (by decide) rfl (zrI h_12l h_12u (by decide) (by decide)) (zrI h_13l h_13u (by decide) (by decide)) (fun c_14 => ?_) (fun c_14 => ?_)
      · refine g_iconst (n := 69) hx (dq tX10_undo 43 rfl) rfl ?_
        refine g_istore_n (n := 70) (lv' := [(3, vI 0), (2, vI (M (229 + 24) (((M (229 + 1) 12) - 1).toNat))), (1, vI ((M (229 + 1) 12) - 1)), (0, aR Γ 229)]) hx (dq tX10_undo 44 rfl) (by decide) rfl rfl ?_
        refine g_aload_n (n := 71) hx 3 (dq tX10_undo 45 rfl) rfl rfl ?_
        refine g_getR (n := 74) hx glX10_88 (sX10_27 (by decide)) (dq tX10_undo 46 rfl) rfl ?_
        refine g_iload_n (n := 75) hx 2 (dq tX10_undo 47 rfl) rfl rfl ?_
        refine g_iald (n := 76) (q := ((M (229 + 1) 12) - 1).toNat) hx (aX10_27 (b := 229) (by decide)) (dq tX10_undo 48 rfl) rfl (by omega) (by omega) (by omega) rfl (fun h_15l h_15u => ?_)
        refine g_iconst (n := 77) hx (dq tX10_undo 49 rfl) rfl ?_
        refine g_icmp_ne (n := 80) (t := 84) hx (dq tX10_undo 50 rfl) (by decide) rfl (zrI h_15l h_15u (by decide) (by decide)) ⟨by decide, by decide⟩ (fun c_16 => ?_) (fun c_16 => ?_)
        · refine g_iconst (n := 85) hx (dq tX10_undo 53 rfl) rfl ?_
          refine g_istore (n := 87) (lv' := [(4, vI 0), (3, vI 0), (2, vI (M (229 + 24) (((M (229 + 1) 12) - 1).toNat))), (1, vI ((M (229 + 1) 12) - 1)), (0, aR Γ 229)]) hx (dq tX10_undo 54 rfl) (by decide) rfl rfl ?_
          refine g_iload_n (n := 88) hx 1 (dq tX10_undo 55 rfl) rfl rfl ?_
          refine g_if_eq (n := 91) (t := 113) hx (dq tX10_undo 56 rfl) (by decide) rfl ⟨by decide, by decide⟩ (fun c_17 => ?_) (fun c_17 => ?_)
          · refine g_bipush (n := 115) hx (dq tX10_undo 70 rfl) rfl (by decide) ?_
            exact g_iret hx hr (dq tX10_undo 71 rfl) ⟨by decide, by decide⟩ ⟨(fun _ _ _ => rfl), gm⟩
          · omega
        · refine g_iconst (n := 81) hx (dq tX10_undo 51 rfl) rfl ?_
          refine g_goto (n := 85) hx (dq tX10_undo 52 rfl) (by decide) ?_
          refine g_istore (n := 87) (lv' := [(4, vI 1), (3, vI 0), (2, vI (M (229 + 24) (((M (229 + 1) 12) - 1).toNat))), (1, vI ((M (229 + 1) 12) - 1)), (0, aR Γ 229)]) hx (dq tX10_undo 54 rfl) (by decide) rfl rfl ?_
          refine g_iload_n (n := 88) hx 1 (dq tX10_undo 55 rfl) rfl rfl ?_
          refine g_if_eq (n := 91) (t := 113) hx (dq tX10_undo 56 rfl) (by decide) rfl ⟨by decide, by decide⟩ (fun c_18 => ?_) (fun c_18 => ?_)
          · refine g_bipush (n := 115) hx (dq tX10_undo 70 rfl) rfl (by decide) ?_
            exact g_iret hx hr (dq tX10_undo 71 rfl) ⟨by decide, by decide⟩ ⟨(fun _ _ _ => rfl), gm⟩
          · omega
      · refine g_iconst (n := 65) hx (dq tX10_undo 41 rfl) rfl ?_
        refine g_goto (n := 69) hx (dq tX10_undo 42 rfl) (by decide) ?_
        refine g_istore_n (n := 70) (lv' := [(3, vI 1), (2, vI (M (229 + 24) (((M (229 + 1) 12) - 1).toNat))), (1, vI ((M (229 + 1) 12) - 1)), (0, aR Γ 229)]) hx (dq tX10_undo 44 rfl) (by decide) rfl rfl ?_
        refine g_aload_n (n := 71) hx 3 (dq tX10_undo 45 rfl) rfl rfl ?_
        refine g_getR (n := 74) hx glX10_88 (sX10_27 (by decide)) (dq tX10_undo 46 rfl) rfl ?_
        refine g_iload_n (n := 75) hx 2 (dq tX10_undo 47 rfl) rfl rfl ?_
        refine g_iald (n := 76) (q := ((M (229 + 1) 12) - 1).toNat) hx (aX10_27 (b := 229) (by decide)) (dq tX10_undo 48 rfl) rfl (by omega) (by omega) (by omega) rfl (fun h_19l h_19u => ?_)
        refine g_iconst (n := 77) hx (dq tX10_undo 49 rfl) rfl ?_
        refine g_icmp_ne (n := 80) (t := 84) hx (dq tX10_undo 50 rfl) (by decide) rfl (zrI h_19l h_19u (by decide) (by decide)) ⟨by decide, by decide⟩ (fun c_20 => ?_) (fun c_20 => ?_)
        · refine g_iconst (n := 85) hx (dq tX10_undo 53 rfl) rfl ?_
          refine g_istore (n := 87) (lv' := [(4, vI 0), (3, vI 1), (2, vI (M (229 + 24) (((M (229 + 1) 12) - 1).toNat))), (1, vI ((M (229 + 1) 12) - 1)), (0, aR Γ 229)]) hx (dq tX10_undo 54 rfl) (by decide) rfl rfl ?_
          refine g_iload_n (n := 88) hx 1 (dq tX10_undo 55 rfl) rfl rfl ?_
          refine g_if_eq (n := 91) (t := 113) hx (dq tX10_undo 56 rfl) (by decide) rfl ⟨by decide, by decide⟩ (fun c_21 => ?_) (fun c_21 => ?_)
          · omega
          · refine g_iload (n := 93) hx 0 (dq tX10_undo 57 rfl) rfl rfl ?_
            refine g_if_eq (n := 96) (t := 116) hx (dq tX10_undo 58 rfl) (by decide) rfl ⟨by decide, by decide⟩ (fun c_22 => ?_) (fun c_22 => ?_)
            · refine g_iload (n := 118) hx 0 (dq tX10_undo 72 rfl) rfl rfl ?_
              refine g_if_eq (n := 121) (t := 134) hx (dq tX10_undo 73 rfl) (by decide) rfl ⟨by decide, by decide⟩ (fun c_23 => ?_) (fun c_23 => ?_)
              · refine g_aload_n (n := 135) hx 4 (dq tX10_undo 83 rfl) rfl rfl ?_
                refine g_getR (n := 138) hx glX10_61 (sX10_18 (by decide)) (dq tX10_undo 84 rfl) rfl ?_
                refine g_bipush (n := 140) hx (dq tX10_undo 85 rfl) rfl (by decide) ?_
                refine g_iload_n (n := 141) hx 2 (dq tX10_undo 86 rfl) rfl rfl ?_
                refine g_imul (n := 142) hx (dq tX10_undo 87 rfl) rfl ?_
                refine g_aload_n (n := 143) hx 4 (dq tX10_undo 88 rfl) rfl rfl ?_
                refine g_getR (n := 146) hx glX10_82 (sX10_25 (by decide)) (dq tX10_undo 89 rfl) rfl ?_
                refine g_iload_n (n := 147) hx 3 (dq tX10_undo 90 rfl) rfl rfl ?_
                refine g_iald (n := 148) (q := ((M (229 + 1) 12) - 1).toNat) hx (aX10_25 (b := 229) (by decide)) (dq tX10_undo 91 rfl) rfl (by omega) (by omega) (by omega) rfl (fun h_24l h_24u => ?_)
                refine g_iadd (n := 149) hx (dq tX10_undo 92 rfl) rfl ?_
                refine g_aload_n (n := 150) hx 4 (dq tX10_undo 93 rfl) rfl rfl ?_
                refine g_getR (n := 153) hx glX10_88 (sX10_27 (by decide)) (dq tX10_undo 94 rfl) rfl ?_
                refine g_iload_n (n := 154) hx 3 (dq tX10_undo 95 rfl) rfl rfl ?_
                refine g_iald (n := 155) (q := ((M (229 + 1) 12) - 1).toNat) hx (aX10_27 (b := 229) (by decide)) (dq tX10_undo 96 rfl) rfl (by omega) (by omega) (by omega) rfl (fun h_25l h_25u => ?_)
                refine g_iast (n := 156) (q := ((6 * (M (229 + 24) (((M (229 + 1) 12) - 1).toNat))) + (M (229 + 25) (((M (229 + 1) 12) - 1).toNat))).toNat) hx (aX10_18 (b := 229) (by decide)) (dq tX10_undo 97 rfl) rfl (by omega) (by omega) (by omega) rfl (by omega) (by omega) (fun M_26 m_27e m_27 => ?_)
                have g_28 := Gm.notch gm m_27e m_27 (by omega) (by omega)
                refine g_aload_n (n := 157) hx 4 (dq tX10_undo 98 rfl) rfl rfl ?_
                refine g_getR (n := 160) hx glX10_9 (sX10_1 (by decide)) (dq tX10_undo 99 rfl) rfl ?_
                refine g_bipush (n := 162) hx (dq tX10_undo 100 rfl) rfl (by decide) ?_
                refine g_dup2 (n := 163) hx (dq tX10_undo 101 rfl) rfl rfl rfl ?_
                refine g_ialdX (n := 164) (q := 12) hx (aX10_1 (b := 229) (by decide)) (dq tX10_undo 102 rfl) rfl (by decide) (by decide) (by decide) rfl (fun h_29l h_29u => ?_)
                have h_29l : 0 ≤ M_26 (229 + 1) 12 := h_29l
                have h_29u : M_26 (229 + 1) 12 ≤ 12 := h_29u
                have e_30 : M_26 (229 + 1) 12 = M (229 + 1) 12 := (m_27 (229 + 1) 12 (by omega))
                refine g_iconst (n := 165) hx (dq tX10_undo 103 rfl) rfl ?_
                refine g_isub (n := 166) hx (dq tX10_undo 104 rfl) rfl ?_
                have e_31 : M_26 (229 + 1) 1 = M (229 + 1) 1 := (m_27 (229 + 1) 1 (by omega))
                have e_32 : M_26 (229 + 1) 3 = M (229 + 1) 3 := (m_27 (229 + 1) 3 (by omega))
                refine g_iastX (n := 167) (q := 12) hx (aX10_1 (b := 229) (by decide)) (dq tX10_undo 105 rfl) rfl (by decide) (by decide) (by decide) rfl (show 0 ≤ (M_26 (229 + 1) 12) - 1 by omega) (show (M_26 (229 + 1) 12) - 1 ≤ 12 by omega) (fun M_33 m_34e m_34 => ?_)
                have g_35 : Gm M_33 := Gm.frame g_28 (fun c j hcj => m_34 c j (by omega))
                refine g_iload_n (n := 168) hx 2 (dq tX10_undo 106 rfl) rfl rfl ?_
                have e_36 : M_33 (229 + 1) 1 = M_26 (229 + 1) 1 := (m_34 (229 + 1) 1 (by omega))
                have e_37 : M_33 (229 + 1) 3 = M_26 (229 + 1) 3 := (m_34 (229 + 1) 3 (by omega))
                exact g_iret hx hr (dq tX10_undo 107 rfl) (zrI h_3l h_3u (by decide) (by decide)) ⟨(fun u_ v_ huv_ => ((m_34 u_ v_ (by omega)).trans (m_27 u_ v_ (by omega)))), g_35⟩
              · omega
            · omega
        · refine g_iconst (n := 81) hx (dq tX10_undo 51 rfl) rfl ?_
          refine g_goto (n := 85) hx (dq tX10_undo 52 rfl) (by decide) ?_
          refine g_istore (n := 87) (lv' := [(4, vI 1), (3, vI 1), (2, vI (M (229 + 24) (((M (229 + 1) 12) - 1).toNat))), (1, vI ((M (229 + 1) 12) - 1)), (0, aR Γ 229)]) hx (dq tX10_undo 54 rfl) (by decide) rfl rfl ?_
          refine g_iload_n (n := 88) hx 1 (dq tX10_undo 55 rfl) rfl rfl ?_
          refine g_if_eq (n := 91) (t := 113) hx (dq tX10_undo 56 rfl) (by decide) rfl ⟨by decide, by decide⟩ (fun c_38 => ?_) (fun c_38 => ?_)
          · omega
          · refine g_iload (n := 93) hx 0 (dq tX10_undo 57 rfl) rfl rfl ?_
            refine g_if_eq (n := 96) (t := 116) hx (dq tX10_undo 58 rfl) (by decide) rfl ⟨by decide, by decide⟩ (fun c_39 => ?_) (fun c_39 => ?_)
            · omega
            · refine g_aload_n (n := 97) hx 4 (dq tX10_undo 59 rfl) rfl rfl ?_
              refine g_getR (n := 100) hx glX10_82 (sX10_25 (by decide)) (dq tX10_undo 60 rfl) rfl ?_
              refine g_iload_n (n := 101) hx 3 (dq tX10_undo 61 rfl) rfl rfl ?_
              refine g_iald (n := 102) (q := ((M (229 + 1) 12) - 1).toNat) hx (aX10_25 (b := 229) (by decide)) (dq tX10_undo 62 rfl) rfl (by omega) (by omega) (by omega) rfl (fun h_40l h_40u => ?_)
              refine g_aload_n (n := 103) hx 4 (dq tX10_undo 63 rfl) rfl rfl ?_
              refine g_getR (n := 106) hx glX10_46 (sX10_13 (by decide)) (dq tX10_undo 64 rfl) rfl ?_
              refine g_iload_n (n := 107) hx 2 (dq tX10_undo 65 rfl) rfl rfl ?_
              refine g_iald (n := 108) (q := (M (229 + 24) (((M (229 + 1) 12) - 1).toNat)).toNat) hx (aX10_13 (b := 229) (by decide)) (dq tX10_undo 66 rfl) rfl (by omega) (by omega) (by omega) rfl (fun h_41l h_41u => ?_)
              refine g_iconst (n := 109) hx (dq tX10_undo 67 rfl) rfl ?_
              refine g_isub (n := 110) hx (dq tX10_undo 68 rfl) rfl ?_
              refine g_icmp_eq (n := 113) (t := 116) hx (dq tX10_undo 69 rfl) (by decide) rfl (zrI h_40l h_40u (by decide) (by decide)) ⟨by omega, by omega⟩ (fun c_42 => ?_) (fun c_42 => ?_)
              · refine g_iload (n := 118) hx 0 (dq tX10_undo 72 rfl) rfl rfl ?_
                refine g_if_eq (n := 121) (t := 134) hx (dq tX10_undo 73 rfl) (by decide) rfl ⟨by decide, by decide⟩ (fun c_43 => ?_) (fun c_43 => ?_)
                · omega
                · refine g_aload_n (n := 122) hx 4 (dq tX10_undo 74 rfl) rfl rfl ?_
                  refine g_getR (n := 125) hx glX10_46 (sX10_13 (by decide)) (dq tX10_undo 75 rfl) rfl ?_
                  refine g_iload_n (n := 126) hx 2 (dq tX10_undo 76 rfl) rfl rfl ?_
                  refine g_dup2 (n := 127) hx (dq tX10_undo 77 rfl) rfl rfl rfl ?_
                  refine g_iald (n := 128) (q := (M (229 + 24) (((M (229 + 1) 12) - 1).toNat)).toNat) hx (aX10_13 (b := 229) (by decide)) (dq tX10_undo 78 rfl) rfl (by omega) (by omega) (by omega) rfl (fun h_44l h_44u => ?_)
                  refine g_iconst (n := 129) hx (dq tX10_undo 79 rfl) rfl ?_
                  refine g_isub (n := 130) hx (dq tX10_undo 80 rfl) rfl ?_
                  refine g_iast (n := 131) (q := (M (229 + 24) (((M (229 + 1) 12) - 1).toNat)).toNat) hx (aX10_13 (b := 229) (by decide)) (dq tX10_undo 81 rfl) rfl (by omega) (by omega) (by omega) rfl (by omega) (by omega) (fun M_45 m_46e m_46 => ?_)
                  have g_47 : Gm M_45 := Gm.frame gm (fun c j hcj => m_46 c j (by omega))
                  refine g_goto (n := 156) hx (dq tX10_undo 82 rfl) (by decide) ?_
                  refine g_aload_n (n := 157) hx 4 (dq tX10_undo 98 rfl) rfl rfl ?_
                  refine g_getR (n := 160) hx glX10_9 (sX10_1 (by decide)) (dq tX10_undo 99 rfl) rfl ?_
                  refine g_bipush (n := 162) hx (dq tX10_undo 100 rfl) rfl (by decide) ?_
                  refine g_dup2 (n := 163) hx (dq tX10_undo 101 rfl) rfl rfl rfl ?_
                  refine g_ialdX (n := 164) (q := 12) hx (aX10_1 (b := 229) (by decide)) (dq tX10_undo 102 rfl) rfl (by decide) (by decide) (by decide) rfl (fun h_48l h_48u => ?_)
                  have h_48l : 0 ≤ M_45 (229 + 1) 12 := h_48l
                  have h_48u : M_45 (229 + 1) 12 ≤ 12 := h_48u
                  have e_49 : M_45 (229 + 1) 12 = M (229 + 1) 12 := (m_46 (229 + 1) 12 (by omega))
                  refine g_iconst (n := 165) hx (dq tX10_undo 103 rfl) rfl ?_
                  refine g_isub (n := 166) hx (dq tX10_undo 104 rfl) rfl ?_
                  have e_50 : M_45 (229 + 1) 1 = M (229 + 1) 1 := (m_46 (229 + 1) 1 (by omega))
                  have e_51 : M_45 (229 + 1) 3 = M (229 + 1) 3 := (m_46 (229 + 1) 3 (by omega))
                  refine g_iastX (n := 167) (q := 12) hx (aX10_1 (b := 229) (by decide)) (dq tX10_undo 105 rfl) rfl (by decide) (by decide) (by decide) rfl (show 0 ≤ (M_45 (229 + 1) 12) - 1 by omega) (show (M_45 (229 + 1) 12) - 1 ≤ 12 by omega) (fun M_52 m_53e m_53 => ?_)
                  have g_54 : Gm M_52 := Gm.frame g_47 (fun c j hcj => m_53 c j (by omega))
                  refine g_iload_n (n := 168) hx 2 (dq tX10_undo 106 rfl) rfl rfl ?_
                  have e_55 : M_52 (229 + 1) 1 = M_45 (229 + 1) 1 := (m_53 (229 + 1) 1 (by omega))
                  have e_56 : M_52 (229 + 1) 3 = M_45 (229 + 1) 3 := (m_53 (229 + 1) 3 (by omega))
                  exact g_iret hx hr (dq tX10_undo 107 rfl) (zrI h_3l h_3u (by decide) (by decide)) ⟨(fun u_ v_ huv_ => ((m_53 u_ v_ (by omega)).trans (m_46 u_ v_ (by omega)))), g_54⟩
              · refine g_bipush (n := 115) hx (dq tX10_undo 70 rfl) rfl (by decide) ?_
                exact g_iret hx hr (dq tX10_undo 71 rfl) ⟨by decide, by decide⟩ ⟨(fun _ _ _ => rfl), gm⟩
  · refine g_bipush (n := 16) hx (dq tX10_undo 9 rfl) rfl (by decide) ?_
    exact g_iret hx hr (dq tX10_undo 10 rfl) ⟨by decide, by decide⟩ ⟨(fun _ _ _ => rfl), gm⟩

abbrev qctX10_launch (M : zM) (l : Int) (z : Int) (M' : zM) : Prop := (∀ u_ v_, u_ ≠ 229 + 12 → M' u_ v_ = M u_ v_) ∧ Gm M'
set_option maxHeartbeats 4000000 in
set_option maxRecDepth 100000 in
theorem ctX10_launch (Γ : Gam) (M : zM) (l : Int) (hll : (-2147483648) ≤ l) (hlu : l ≤ 2147483647) (gm : Gm M) : CtI Γ yX10_launch cX10_launch 2 (some .int) 3 67 [aR Γ 229, vI l] M (qctX10_launch M l) := by
  refine met_i (by decide) (Nat.le_of_ble_eq_true rfl) (fun x hx hr => ?_)
  show G Γ x 2 (QI Γ x (qctX10_launch M l)) M 0 [(0, aR Γ 229), (1, vI l)] []
  refine g_aload_n (n := 1) hx 0 (dq tX10_launch 0 rfl) rfl rfl ?_
  refine g_iload_n (n := 2) hx 1 (dq tX10_launch 1 rfl) rfl rfl ?_
  refine g_callVi (n := 5) (As := [vI l]) (rest := []) hx (ctX10_isLog Γ M l (by omega) (by omega)) mlX10_483 (obX10 (by decide)) (dq tX10_launch 2 rfl) rfl (Nat.le_of_ble_eq_true rfl) (Nat.le_of_ble_eq_true rfl) (Nat.le_of_ble_eq_true rfl) rfl (fun z_1 M_2 h_3 p_4 => ?_)
  obtain ⟨rfl, b_6⟩ := p_4
  refine g_if_eq (n := 8) (t := 28) hx (dq tX10_launch 3 rfl) (by decide) rfl h_3 (fun c_10 => ?_) (fun c_10 => ?_)
  · clear b_6
    refine g_bipush (n := 30) hx (dq tX10_launch 14 rfl) rfl (by decide) ?_
    exact g_iret hx hr (dq tX10_launch 15 rfl) ⟨by decide, by decide⟩ ⟨(fun _ _ _ => rfl), gm⟩
  · have b_6 := b_6.resolve_left c_10
    obtain ⟨-, h_7, h_8, h_9⟩ := b_6
    refine g_aload_n (n := 9) hx 0 (dq tX10_launch 4 rfl) rfl rfl ?_
    refine g_iload_n (n := 10) hx 1 (dq tX10_launch 5 rfl) rfl rfl ?_
    refine g_callVi (n := 13) (As := [vI l]) (rest := []) hx (ctX10_isAshore Γ M l (by omega) (by omega)) mlX10_203 (obX10 (by decide)) (dq tX10_launch 6 rfl) rfl (Nat.le_of_ble_eq_true rfl) (Nat.le_of_ble_eq_true rfl) (Nat.le_of_ble_eq_true rfl) rfl (fun z_11 M_12 h_13 p_14 => ?_)
    obtain ⟨rfl, b_16, h_17⟩ := p_14
    refine g_if_eq (n := 16) (t := 28) hx (dq tX10_launch 7 rfl) (by decide) rfl h_13 (fun c_20 => ?_) (fun c_20 => ?_)
    · clear b_16
      refine g_bipush (n := 30) hx (dq tX10_launch 14 rfl) rfl (by decide) ?_
      exact g_iret hx hr (dq tX10_launch 15 rfl) ⟨by decide, by decide⟩ ⟨(fun _ _ _ => rfl), gm⟩
    · have b_16 := b_16.resolve_left c_20
      obtain ⟨-, h_18, h_19⟩ := b_16
      refine g_aload_n (n := 17) hx 0 (dq tX10_launch 8 rfl) rfl rfl ?_
      refine g_aload_n (n := 18) hx 0 (dq tX10_launch 9 rfl) rfl rfl ?_
      refine g_iload_n (n := 19) hx 1 (dq tX10_launch 10 rfl) rfl rfl ?_
      refine g_callVi (n := 22) (As := [vI l]) (rest := [aR Γ 229]) hx (ctX10_bendOf Γ M l (by omega) (by omega) (by omega) gm) mlX10_213 (obX10 (by decide)) (dq tX10_launch 11 rfl) rfl (Nat.le_of_ble_eq_true rfl) (Nat.le_of_ble_eq_true rfl) (Nat.le_of_ble_eq_true rfl) rfl (fun z_21 M_22 h_23 p_24 => ?_)
      obtain ⟨rfl, h_26, h_27, h_28⟩ := p_24
      refine g_callVi (n := 25) (As := [vI z_21]) (rest := []) hx (ctX10_roomAt Γ M z_21 (by omega) (by omega)) mlX10_470 (obX10 (by decide)) (dq tX10_launch 12 rfl) rfl (Nat.le_of_ble_eq_true rfl) (Nat.le_of_ble_eq_true rfl) (Nat.le_of_ble_eq_true rfl) rfl (fun z_29 M_30 h_31 p_32 => ?_)
      obtain rfl := p_32
      refine g_if_ne (n := 28) (t := 31) hx (dq tX10_launch 13 rfl) (by decide) rfl h_31 (fun c_34 => ?_) (fun c_34 => ?_)
      · refine g_aload_n (n := 32) hx 0 (dq tX10_launch 16 rfl) rfl rfl ?_
        refine g_getR (n := 35) hx glX10_43 (sX10_12 (by decide)) (dq tX10_launch 17 rfl) rfl ?_
        refine g_iload_n (n := 36) hx 1 (dq tX10_launch 18 rfl) rfl rfl ?_
        refine g_aload_n (n := 37) hx 0 (dq tX10_launch 19 rfl) rfl rfl ?_
        refine g_iload_n (n := 38) hx 1 (dq tX10_launch 20 rfl) rfl rfl ?_
        refine g_callVi (n := 41) (As := [vI l]) (rest := [vI l, aR Γ (229 + 12)]) hx (ctX10_bendOf Γ M l (by omega) (by omega) (by omega) gm) mlX10_213 (obX10 (by decide)) (dq tX10_launch 21 rfl) rfl (Nat.le_of_ble_eq_true rfl) (Nat.le_of_ble_eq_true rfl) (Nat.le_of_ble_eq_true rfl) rfl (fun z_35 M_36 h_37 p_38 => ?_)
        obtain ⟨rfl, h_40, h_41, h_42⟩ := p_38
        refine g_iast (n := 42) (q := l.toNat) hx (aX10_12 (b := 229) (by decide)) (dq tX10_launch 22 rfl) rfl (by omega) (by omega) (by omega) rfl (by omega) (by omega) (fun M_43 m_44e m_44 => ?_)
        have g_45 := Gm.place gm m_44e m_44 (by unfold PlOk; omega)
        refine g_aload_n (n := 43) hx 0 (dq tX10_launch 23 rfl) rfl rfl ?_
        refine g_getR (n := 46) hx glX10_43 (sX10_12 (by decide)) (dq tX10_launch 24 rfl) rfl ?_
        refine g_iload_n (n := 47) hx 1 (dq tX10_launch 25 rfl) rfl rfl ?_
        refine g_iald (n := 48) (q := l.toNat) hx (aX10_12 (b := 229) (by decide)) (dq tX10_launch 26 rfl) rfl (by omega) (by omega) (by omega) rfl (fun h_46l h_46u => ?_)
        have e_47 : M_43 (229 + 1) 1 = M (229 + 1) 1 := (m_44 (229 + 1) 1 (by omega))
        have e_48 : M_43 (229 + 1) 3 = M (229 + 1) 3 := (m_44 (229 + 1) 3 (by omega))
        exact g_iret hx hr (dq tX10_launch 27 rfl) (zrI h_46l h_46u (by decide) (by decide)) ⟨(fun u_ v_ huv_ => (m_44 u_ v_ (by omega))), g_45⟩
      · refine g_bipush (n := 30) hx (dq tX10_launch 14 rfl) rfl (by decide) ?_
        exact g_iret hx hr (dq tX10_launch 15 rfl) ⟨by decide, by decide⟩ ⟨(fun _ _ _ => rfl), gm⟩

abbrev qctX10_land (M : zM) (l : Int) (v : Int) (z : Int) (M' : zM) : Prop := (∀ u_ v_, u_ ≠ 229 + 12 ∧ u_ ≠ 229 + 15 → M' u_ v_ = M u_ v_) ∧ Gm M' ∧ (z = 0 ∨ (z = 1))
set_option maxHeartbeats 4000000 in
set_option maxRecDepth 100000 in
theorem ctX10_land (Γ : Gam) (M : zM) (l : Int) (hll : (-2147483648) ≤ l) (hlu : l ≤ 2147483647) (v : Int) (hvl : (-2147483648) ≤ v) (hvu : v ≤ 2147483647) (gm : Gm M) : CtI Γ yX10_land cX10_land 4 (some .boolean) 2 46 [aR Γ 229, vI l, vI v] M (qctX10_land M l v) := by
  refine met_i (by decide) (Nat.le_of_ble_eq_true rfl) (fun x hx hr => ?_)
  show G Γ x 4 (QI Γ x (qctX10_land M l v)) M 0 [(0, aR Γ 229), (1, vI l), (2, vI v)] []
  refine g_aload_n (n := 1) hx 0 (dq tX10_land 0 rfl) rfl rfl ?_
  refine g_iload_n (n := 2) hx 1 (dq tX10_land 1 rfl) rfl rfl ?_
  refine g_callVi (n := 5) (As := [vI l]) (rest := []) hx (ctX10_isLog Γ M l (by omega) (by omega)) mlX10_483 (obX10 (by decide)) (dq tX10_land 2 rfl) rfl (Nat.le_of_ble_eq_true rfl) (Nat.le_of_ble_eq_true rfl) (Nat.le_of_ble_eq_true rfl) rfl (fun z_1 M_2 h_3 p_4 => ?_)
  obtain ⟨rfl, b_6⟩ := p_4
  refine g_if_eq (n := 8) (t := 35) hx (dq tX10_land 3 rfl) (by decide) rfl h_3 (fun c_10 => ?_) (fun c_10 => ?_)
  · clear b_6
    refine g_iconst (n := 36) hx (dq tX10_land 19 rfl) rfl ?_
    refine g_istore_n (n := 37) (lv' := [(3, vI 0), (0, aR Γ 229), (1, vI l), (2, vI v)]) hx (dq tX10_land 20 rfl) (by decide) rfl rfl ?_
    refine g_iload_n (n := 38) hx 0 (dq tX10_land 21 rfl) rfl rfl ?_
    refine g_if_eq (n := 41) (t := 58) hx (dq tX10_land 22 rfl) (by decide) rfl ⟨by decide, by decide⟩ (fun c_11 => ?_) (fun c_11 => ?_)
    · refine g_iload_n (n := 59) hx 0 (dq tX10_land 35 rfl) rfl rfl ?_
      exact g_zret hx hr (dq tX10_land 36 rfl) (by omega) ⟨(fun _ _ _ => rfl), gm, (by omega)⟩
    · omega
  · have b_6 := b_6.resolve_left c_10
    obtain ⟨-, h_7, h_8, h_9⟩ := b_6
    refine g_aload_n (n := 9) hx 0 (dq tX10_land 4 rfl) rfl rfl ?_
    refine g_iload_n (n := 10) hx 2 (dq tX10_land 5 rfl) rfl rfl ?_
    refine g_callVi (n := 13) (As := [vI v]) (rest := []) hx (ctX10_isVillage Γ M v (by omega) (by omega)) mlX10_419 (obX10 (by decide)) (dq tX10_land 6 rfl) rfl (Nat.le_of_ble_eq_true rfl) (Nat.le_of_ble_eq_true rfl) (Nat.le_of_ble_eq_true rfl) rfl (fun z_12 M_13 h_14 p_15 => ?_)
    obtain ⟨rfl, b_17⟩ := p_15
    refine g_if_eq (n := 16) (t := 35) hx (dq tX10_land 7 rfl) (by decide) rfl h_14 (fun c_21 => ?_) (fun c_21 => ?_)
    · clear b_17
      refine g_iconst (n := 36) hx (dq tX10_land 19 rfl) rfl ?_
      refine g_istore_n (n := 37) (lv' := [(3, vI 0), (0, aR Γ 229), (1, vI l), (2, vI v)]) hx (dq tX10_land 20 rfl) (by decide) rfl rfl ?_
      refine g_iload_n (n := 38) hx 0 (dq tX10_land 21 rfl) rfl rfl ?_
      refine g_if_eq (n := 41) (t := 58) hx (dq tX10_land 22 rfl) (by decide) rfl ⟨by decide, by decide⟩ (fun c_22 => ?_) (fun c_22 => ?_)
      · refine g_iload_n (n := 59) hx 0 (dq tX10_land 35 rfl) rfl rfl ?_
        exact g_zret hx hr (dq tX10_land 36 rfl) (by omega) ⟨(fun _ _ _ => rfl), gm, (by omega)⟩
      · omega
    · have b_17 := b_17.resolve_left c_21
      obtain ⟨-, h_18, h_19, h_20⟩ := b_17
      refine g_aload_n (n := 17) hx 0 (dq tX10_land 8 rfl) rfl rfl ?_
      refine g_getR (n := 20) hx glX10_43 (sX10_12 (by decide)) (dq tX10_land 9 rfl) rfl ?_
      refine g_iload_n (n := 21) hx 1 (dq tX10_land 10 rfl) rfl rfl ?_
      refine g_iald (n := 22) (q := l.toNat) hx (aX10_12 (b := 229) (by decide)) (dq tX10_land 11 rfl) rfl (by omega) (by omega) (by omega) rfl (fun h_23l h_23u => ?_)
      refine g_aload_n (n := 23) hx 0 (dq tX10_land 12 rfl) rfl rfl ?_
      refine g_getR (n := 26) hx glX10_22 (sX10_5 (by decide)) (dq tX10_land 13 rfl) rfl ?_
      refine g_iload_n (n := 27) hx 2 (dq tX10_land 14 rfl) rfl rfl ?_
      refine g_iald (n := 28) (q := v.toNat) hx (aX10_5 (b := 229) (by decide)) (dq tX10_land 15 rfl) rfl (by omega) (by omega) (by omega) rfl (fun h_24l h_24u => ?_)
      refine g_icmp_ne (n := 31) (t := 35) hx (dq tX10_land 16 rfl) (by decide) rfl (zrI h_23l h_23u (by decide) (by decide)) (zrI h_24l h_24u (by decide) (by decide)) (fun c_25 => ?_) (fun c_25 => ?_)
      · refine g_iconst (n := 36) hx (dq tX10_land 19 rfl) rfl ?_
        refine g_istore_n (n := 37) (lv' := [(3, vI 0), (0, aR Γ 229), (1, vI l), (2, vI v)]) hx (dq tX10_land 20 rfl) (by decide) rfl rfl ?_
        refine g_iload_n (n := 38) hx 0 (dq tX10_land 21 rfl) rfl rfl ?_
        refine g_if_eq (n := 41) (t := 58) hx (dq tX10_land 22 rfl) (by decide) rfl ⟨by decide, by decide⟩ (fun c_26 => ?_) (fun c_26 => ?_)
        · refine g_iload_n (n := 59) hx 0 (dq tX10_land 35 rfl) rfl rfl ?_
          exact g_zret hx hr (dq tX10_land 36 rfl) (by omega) ⟨(fun _ _ _ => rfl), gm, (by omega)⟩
        · omega
      · refine g_iconst (n := 32) hx (dq tX10_land 17 rfl) rfl ?_
        refine g_goto (n := 36) hx (dq tX10_land 18 rfl) (by decide) ?_
        refine g_istore_n (n := 37) (lv' := [(3, vI 1), (0, aR Γ 229), (1, vI l), (2, vI v)]) hx (dq tX10_land 20 rfl) (by decide) rfl rfl ?_
        refine g_iload_n (n := 38) hx 0 (dq tX10_land 21 rfl) rfl rfl ?_
        refine g_if_eq (n := 41) (t := 58) hx (dq tX10_land 22 rfl) (by decide) rfl ⟨by decide, by decide⟩ (fun c_27 => ?_) (fun c_27 => ?_)
        · omega
        · refine g_aload_n (n := 42) hx 1 (dq tX10_land 23 rfl) rfl rfl ?_
          refine g_getR (n := 45) hx glX10_43 (sX10_12 (by decide)) (dq tX10_land 24 rfl) rfl ?_
          refine g_iload_n (n := 46) hx 2 (dq tX10_land 25 rfl) rfl rfl ?_
          refine g_bipush (n := 48) hx (dq tX10_land 26 rfl) rfl (by decide) ?_
          refine g_iload_n (n := 49) hx 3 (dq tX10_land 27 rfl) rfl rfl ?_
          refine g_iadd (n := 50) hx (dq tX10_land 28 rfl) rfl ?_
          refine g_iast (n := 51) (q := l.toNat) hx (aX10_12 (b := 229) (by decide)) (dq tX10_land 29 rfl) rfl (by omega) (by omega) (by omega) rfl (by omega) (by omega) (fun M_28 m_29e m_29 => ?_)
          have g_30 := Gm.place gm m_29e m_29 (by unfold PlOk; omega)
          refine g_aload_n (n := 52) hx 1 (dq tX10_land 30 rfl) rfl rfl ?_
          refine g_getR (n := 55) hx glX10_52 (sX10_15 (by decide)) (dq tX10_land 31 rfl) rfl ?_
          refine g_iload_n (n := 56) hx 2 (dq tX10_land 32 rfl) rfl rfl ?_
          refine g_iconst (n := 57) hx (dq tX10_land 33 rfl) rfl ?_
          have e_31 : M_28 (229 + 1) 1 = M (229 + 1) 1 := (m_29 (229 + 1) 1 (by omega))
          have e_32 : M_28 (229 + 1) 3 = M (229 + 1) 3 := (m_29 (229 + 1) 3 (by omega))
          refine g_iast (n := 58) (q := l.toNat) hx (aX10_15 (b := 229) (by decide)) (dq tX10_land 34 rfl) rfl (by omega) (by omega) (by omega) rfl (by omega) (by omega) (fun M_33 m_34e m_34 => ?_)
          have g_35 : Gm M_33 := Gm.frame g_30 (fun c j hcj => m_34 c j (by omega))
          refine g_iload_n (n := 59) hx 0 (dq tX10_land 35 rfl) rfl rfl ?_
          have e_36 : M_33 (229 + 1) 1 = M_28 (229 + 1) 1 := (m_34 (229 + 1) 1 (by omega))
          have e_37 : M_33 (229 + 1) 3 = M_28 (229 + 1) 3 := (m_34 (229 + 1) 3 (by omega))
          exact g_zret hx hr (dq tX10_land 36 rfl) (by omega) ⟨(fun u_ v_ huv_ => ((m_34 u_ v_ (by omega)).trans (m_29 u_ v_ (by omega)))), g_35, (by omega)⟩

abbrev qctX10_saw (M : zM) (l : Int) (n : Int) (z : Int) (M' : zM) : Prop := (∀ u_ v_, u_ ≠ 229 + 10 → M' u_ v_ = M u_ v_)
set_option maxHeartbeats 4000000 in
set_option maxRecDepth 100000 in
theorem ctX10_saw (Γ : Gam) (M : zM) (l : Int) (hll : (-2147483648) ≤ l) (hlu : l ≤ 2147483647) (n : Int) (hnl : (-2147483648) ≤ n) (hnu : n ≤ 2147483647)  : CtI Γ yX10_saw cX10_saw 3 (some .int) 2 46 [aR Γ 229, vI l, vI n] M (qctX10_saw M l n) := by
  refine met_i (by decide) (Nat.le_of_ble_eq_true rfl) (fun x hx hr => ?_)
  show G Γ x 3 (QI Γ x (qctX10_saw M l n)) M 0 [(0, aR Γ 229), (1, vI l), (2, vI n)] []
  refine g_aload_n (n := 1) hx 0 (dq tX10_saw 0 rfl) rfl rfl ?_
  refine g_iload_n (n := 2) hx 1 (dq tX10_saw 1 rfl) rfl rfl ?_
  refine g_callVi (n := 5) (As := [vI l]) (rest := []) hx (ctX10_isLog Γ M l (by omega) (by omega)) mlX10_483 (obX10 (by decide)) (dq tX10_saw 2 rfl) rfl (Nat.le_of_ble_eq_true rfl) (Nat.le_of_ble_eq_true rfl) (Nat.le_of_ble_eq_true rfl) rfl (fun z_1 M_2 h_3 p_4 => ?_)
  obtain ⟨rfl, b_6⟩ := p_4
  refine g_if_eq (n := 8) (t := 43) hx (dq tX10_saw 3 rfl) (by decide) rfl h_3 (fun c_10 => ?_) (fun c_10 => ?_)
  · clear b_6
    refine g_bipush (n := 45) hx (dq tX10_saw 25 rfl) rfl (by decide) ?_
    exact g_iret hx hr (dq tX10_saw 26 rfl) ⟨by decide, by decide⟩ (fun _ _ _ => rfl)
  · have b_6 := b_6.resolve_left c_10
    obtain ⟨-, h_7, h_8, h_9⟩ := b_6
    refine g_aload_n (n := 9) hx 0 (dq tX10_saw 4 rfl) rfl rfl ?_
    refine g_iload_n (n := 10) hx 1 (dq tX10_saw 5 rfl) rfl rfl ?_
    refine g_callVi (n := 13) (As := [vI l]) (rest := []) hx (ctX10_isThere Γ M l (by omega) (by omega)) mlX10_473 (obX10 (by decide)) (dq tX10_saw 6 rfl) rfl (Nat.le_of_ble_eq_true rfl) (Nat.le_of_ble_eq_true rfl) (Nat.le_of_ble_eq_true rfl) rfl (fun z_11 M_12 h_13 p_14 => ?_)
    obtain ⟨rfl, b_16⟩ := p_14
    refine g_if_eq (n := 16) (t := 43) hx (dq tX10_saw 7 rfl) (by decide) rfl h_13 (fun c_18 => ?_) (fun c_18 => ?_)
    · clear b_16
      refine g_bipush (n := 45) hx (dq tX10_saw 25 rfl) rfl (by decide) ?_
      exact g_iret hx hr (dq tX10_saw 26 rfl) ⟨by decide, by decide⟩ (fun _ _ _ => rfl)
    · have b_16 := b_16.resolve_left c_18
      obtain ⟨-, h_17⟩ := b_16
      refine g_iload_n (n := 17) hx 2 (dq tX10_saw 8 rfl) rfl rfl ?_
      refine g_iconst (n := 18) hx (dq tX10_saw 9 rfl) rfl ?_
      refine g_icmp_lt (n := 21) (t := 43) hx (dq tX10_saw 10 rfl) (by decide) rfl (zrI hnl hnu (by decide) (by decide)) ⟨by decide, by decide⟩ (fun c_19 => ?_) (fun c_19 => ?_)
      · refine g_bipush (n := 45) hx (dq tX10_saw 25 rfl) rfl (by decide) ?_
        exact g_iret hx hr (dq tX10_saw 26 rfl) ⟨by decide, by decide⟩ (fun _ _ _ => rfl)
      · refine g_aload_n (n := 22) hx 0 (dq tX10_saw 11 rfl) rfl rfl ?_
        refine g_getR (n := 25) hx glX10_37 (sX10_10 (by decide)) (dq tX10_saw 12 rfl) rfl ?_
        refine g_iload_n (n := 26) hx 1 (dq tX10_saw 13 rfl) rfl rfl ?_
        refine g_iald (n := 27) (q := l.toNat) hx (aX10_10 (b := 229) (by decide)) (dq tX10_saw 14 rfl) rfl (by omega) (by omega) (by omega) rfl (fun h_20l h_20u => ?_)
        refine g_iload_n (n := 28) hx 2 (dq tX10_saw 15 rfl) rfl rfl ?_
        refine g_isub (n := 29) hx (dq tX10_saw 16 rfl) rfl ?_
        refine g_iconst (n := 30) hx (dq tX10_saw 17 rfl) rfl ?_
        refine g_any2 (fun z_21 h_22 => ?_)
        refine g_icmp_lt (n := 33) (t := 43) hx (dq tX10_saw 18 rfl) (by decide) rfl h_22 ⟨by decide, by decide⟩ (fun c_23 => ?_) (fun c_23 => ?_)
        · refine g_bipush (n := 45) hx (dq tX10_saw 25 rfl) rfl (by decide) ?_
          exact g_iret hx hr (dq tX10_saw 26 rfl) ⟨by decide, by decide⟩ (fun _ _ _ => rfl)
        · refine g_iload_n (n := 34) hx 2 (dq tX10_saw 19 rfl) rfl rfl ?_
          refine g_aload_n (n := 35) hx 0 (dq tX10_saw 20 rfl) rfl rfl ?_
          refine g_getR (n := 38) hx glX10_37 (sX10_10 (by decide)) (dq tX10_saw 21 rfl) rfl ?_
          refine g_iload_n (n := 39) hx 1 (dq tX10_saw 22 rfl) rfl rfl ?_
          refine g_iald (n := 40) (q := l.toNat) hx (aX10_10 (b := 229) (by decide)) (dq tX10_saw 23 rfl) rfl (by omega) (by omega) (by omega) rfl (fun h_24l h_24u => ?_)
          refine g_icmp_le (n := 43) (t := 46) hx (dq tX10_saw 24 rfl) (by decide) rfl (zrI hnl hnu (by decide) (by decide)) (zrI h_24l h_24u (by decide) (by decide)) (fun c_25 => ?_) (fun c_25 => ?_)
          · refine g_aload_n (n := 47) hx 0 (dq tX10_saw 27 rfl) rfl rfl ?_
            refine g_getR (n := 50) hx glX10_37 (sX10_10 (by decide)) (dq tX10_saw 28 rfl) rfl ?_
            refine g_iload_n (n := 51) hx 1 (dq tX10_saw 29 rfl) rfl rfl ?_
            refine g_dup2 (n := 52) hx (dq tX10_saw 30 rfl) rfl rfl rfl ?_
            refine g_iald (n := 53) (q := l.toNat) hx (aX10_10 (b := 229) (by decide)) (dq tX10_saw 31 rfl) rfl (by omega) (by omega) (by omega) rfl (fun h_26l h_26u => ?_)
            refine g_iload_n (n := 54) hx 2 (dq tX10_saw 32 rfl) rfl rfl ?_
            refine g_isub (n := 55) hx (dq tX10_saw 33 rfl) rfl ?_
            refine g_iast (n := 56) (q := l.toNat) hx (aX10_10 (b := 229) (by decide)) (dq tX10_saw 34 rfl) rfl (by omega) (by omega) (by omega) rfl (by omega) (by omega) (fun M_27 m_28e m_28 => ?_)
            refine g_aload_n (n := 57) hx 0 (dq tX10_saw 35 rfl) rfl rfl ?_
            refine g_getR (n := 60) hx glX10_37 (sX10_10 (by decide)) (dq tX10_saw 36 rfl) rfl ?_
            refine g_iload_n (n := 61) hx 1 (dq tX10_saw 37 rfl) rfl rfl ?_
            refine g_iald (n := 62) (q := l.toNat) hx (aX10_10 (b := 229) (by decide)) (dq tX10_saw 38 rfl) rfl (by omega) (by omega) (by omega) rfl (fun h_29l h_29u => ?_)
            have e_30 : M_27 (229 + 1) 1 = M (229 + 1) 1 := (m_28 (229 + 1) 1 (by omega))
            have e_31 : M_27 (229 + 1) 3 = M (229 + 1) 3 := (m_28 (229 + 1) 3 (by omega))
            exact g_iret hx hr (dq tX10_saw 39 rfl) (zrI h_29l h_29u (by decide) (by decide)) (fun u_ v_ huv_ => (m_28 u_ v_ (by omega)))
          · refine g_bipush (n := 45) hx (dq tX10_saw 25 rfl) rfl (by decide) ?_
            exact g_iret hx hr (dq tX10_saw 26 rfl) ⟨by decide, by decide⟩ (fun _ _ _ => rfl)

abbrev qctX10_dam (M : zM) (b_ : Int) (z : Int) (M' : zM) : Prop := (∀ u_ v_, u_ ≠ 229 + 3 → M' u_ v_ = M u_ v_)
set_option maxHeartbeats 4000000 in
set_option maxRecDepth 100000 in
theorem ctX10_dam (Γ : Gam) (M : zM) (b_ : Int) (hb_l : (-2147483648) ≤ b_) (hb_u : b_ ≤ 2147483647)  : CtI Γ yX10_dam cX10_dam 2 (some .int) 2 46 [aR Γ 229, vI b_] M (qctX10_dam M b_) := by
  refine met_i (by decide) (Nat.le_of_ble_eq_true rfl) (fun x hx hr => ?_)
  show G Γ x 2 (QI Γ x (qctX10_dam M b_)) M 0 [(0, aR Γ 229), (1, vI b_)] []
  refine g_aload_n (n := 1) hx 0 (dq tX10_dam 0 rfl) rfl rfl ?_
  refine g_iload_n (n := 2) hx 1 (dq tX10_dam 1 rfl) rfl rfl ?_
  refine g_callVi (n := 5) (As := [vI b_]) (rest := []) hx (ctX10_isBend Γ M b_ (by omega) (by omega)) mlX10_467 (obX10 (by decide)) (dq tX10_dam 2 rfl) rfl (Nat.le_of_ble_eq_true rfl) (Nat.le_of_ble_eq_true rfl) (Nat.le_of_ble_eq_true rfl) rfl (fun z_1 M_2 h_3 p_4 => ?_)
  obtain ⟨rfl, b_6⟩ := p_4
  refine g_if_eq (n := 8) (t := 18) hx (dq tX10_dam 3 rfl) (by decide) rfl h_3 (fun c_10 => ?_) (fun c_10 => ?_)
  · clear b_6
    refine g_bipush (n := 20) hx (dq tX10_dam 10 rfl) rfl (by decide) ?_
    exact g_iret hx hr (dq tX10_dam 11 rfl) ⟨by decide, by decide⟩ (fun _ _ _ => rfl)
  · have b_6 := b_6.resolve_left c_10
    obtain ⟨-, h_7, h_8, h_9⟩ := b_6
    refine g_aload_n (n := 9) hx 0 (dq tX10_dam 4 rfl) rfl rfl ?_
    refine g_getR (n := 12) hx glX10_16 (sX10_3 (by decide)) (dq tX10_dam 5 rfl) rfl ?_
    refine g_iload_n (n := 13) hx 1 (dq tX10_dam 6 rfl) rfl rfl ?_
    refine g_iald (n := 14) (q := b_.toNat) hx (aX10_3 (b := 229) (by decide)) (dq tX10_dam 7 rfl) rfl (by omega) (by omega) (by omega) rfl (fun h_11l h_11u => ?_)
    refine g_iconst (n := 15) hx (dq tX10_dam 8 rfl) rfl ?_
    refine g_icmp_ne (n := 18) (t := 21) hx (dq tX10_dam 9 rfl) (by decide) rfl (zrI h_11l h_11u (by decide) (by decide)) ⟨by decide, by decide⟩ (fun c_12 => ?_) (fun c_12 => ?_)
    · refine g_aload_n (n := 22) hx 0 (dq tX10_dam 12 rfl) rfl rfl ?_
      refine g_getR (n := 25) hx glX10_16 (sX10_3 (by decide)) (dq tX10_dam 13 rfl) rfl ?_
      refine g_iload_n (n := 26) hx 1 (dq tX10_dam 14 rfl) rfl rfl ?_
      refine g_dup2 (n := 27) hx (dq tX10_dam 15 rfl) rfl rfl rfl ?_
      refine g_iald (n := 28) (q := b_.toNat) hx (aX10_3 (b := 229) (by decide)) (dq tX10_dam 16 rfl) rfl (by omega) (by omega) (by omega) rfl (fun h_13l h_13u => ?_)
      refine g_iconst (n := 29) hx (dq tX10_dam 17 rfl) rfl ?_
      refine g_iadd (n := 30) hx (dq tX10_dam 18 rfl) rfl ?_
      refine g_any (fun z_14 h_15 => ?_)
      refine g_iast (n := 31) (q := b_.toNat) hx (aX10_3 (b := 229) (by decide)) (dq tX10_dam 19 rfl) rfl (by omega) (by omega) (by omega) rfl (by omega) (by omega) (fun M_16 m_17e m_17 => ?_)
      refine g_aload_n (n := 32) hx 0 (dq tX10_dam 20 rfl) rfl rfl ?_
      refine g_getR (n := 35) hx glX10_16 (sX10_3 (by decide)) (dq tX10_dam 21 rfl) rfl ?_
      refine g_iload_n (n := 36) hx 1 (dq tX10_dam 22 rfl) rfl rfl ?_
      refine g_iald (n := 37) (q := b_.toNat) hx (aX10_3 (b := 229) (by decide)) (dq tX10_dam 23 rfl) rfl (by omega) (by omega) (by omega) rfl (fun h_18l h_18u => ?_)
      have e_19 : M_16 (229 + 1) 1 = M (229 + 1) 1 := (m_17 (229 + 1) 1 (by omega))
      have e_20 : M_16 (229 + 1) 3 = M (229 + 1) 3 := (m_17 (229 + 1) 3 (by omega))
      exact g_iret hx hr (dq tX10_dam 24 rfl) (zrI h_18l h_18u (by decide) (by decide)) (fun u_ v_ huv_ => (m_17 u_ v_ (by omega)))
    · refine g_bipush (n := 20) hx (dq tX10_dam 10 rfl) rfl (by decide) ?_
      exact g_iret hx hr (dq tX10_dam 11 rfl) ⟨by decide, by decide⟩ (fun _ _ _ => rfl)

abbrev qctX10_winter (M : zM) (n : Int) (z : Int) (M' : zM) : Prop := (∀ u_ v_, u_ ≠ 229 + 8 → M' u_ v_ = M u_ v_)
set_option maxHeartbeats 4000000 in
set_option maxRecDepth 100000 in
theorem ctX10_winter (Γ : Gam) (M : zM) (n : Int) (hnl : (-2147483648) ≤ n) (hnu : n ≤ 2147483647)  : CtI Γ yX10_winter cX10_winter 4 (some .int) 1 25 [aR Γ 229, vI n] M (qctX10_winter M n) := by
  refine met_i (by decide) (Nat.le_of_ble_eq_true rfl) (fun x hx hr => ?_)
  show G Γ x 4 (QI Γ x (qctX10_winter M n)) M 0 [(0, aR Γ 229), (1, vI n)] []
  refine g_aload_n (n := 1) hx 0 (dq tX10_winter 0 rfl) rfl rfl ?_
  refine g_callVi (n := 4) (As := []) (rest := []) hx (ctX10_isRiver Γ M ) mlX10_413 (obX10 (by decide)) (dq tX10_winter 1 rfl) rfl (Nat.le_of_ble_eq_true rfl) (Nat.le_of_ble_eq_true rfl) (Nat.le_of_ble_eq_true rfl) rfl (fun z_1 M_2 h_3 p_4 => ?_)
  obtain ⟨rfl, b_6⟩ := p_4
  refine g_if_eq (n := 7) (t := 19) hx (dq tX10_winter 2 rfl) (by decide) rfl h_3 (fun c_8 => ?_) (fun c_8 => ?_)
  · clear b_6
    refine g_bipush (n := 21) hx (dq tX10_winter 9 rfl) rfl (by decide) ?_
    exact g_iret hx hr (dq tX10_winter 10 rfl) ⟨by decide, by decide⟩ (fun _ _ _ => rfl)
  · have b_6 := b_6.resolve_left c_8
    obtain ⟨-, h_7⟩ := b_6
    refine g_iload_n (n := 8) hx 1 (dq tX10_winter 3 rfl) rfl rfl ?_
    refine g_i2l (n := 9) hx (dq tX10_winter 4 rfl) rfl (zrI hnl hnu (by decide) (by decide)) ?_
    refine g_lconst (n := 10) (z := 0) hx (dq tX10_winter 5 rfl) rfl (by decide) ?_
    refine g_ldc2 (n := 13) (z := 99999) hx wd_1800 (by decide) (dq tX10_winter 6 rfl) rfl ?_
    refine g_callSi (n := 16) (As := [vL n, vL 0, vL 99999]) (rest := []) hx (ctX10_in Γ M n (by omega) (by omega) 0 (by omega) (by omega) 99999 (by omega) (by omega)) mlX10_191 (dq tX10_winter 7 rfl) rfl (Nat.le_of_ble_eq_true rfl) (Nat.le_of_ble_eq_true rfl) (Nat.le_of_ble_eq_true rfl) rfl (fun z_9 M_10 h_11 p_12 => ?_)
    obtain ⟨rfl, b_14, h_15⟩ := p_12
    refine g_if_ne (n := 19) (t := 22) hx (dq tX10_winter 8 rfl) (by decide) rfl h_11 (fun c_18 => ?_) (fun c_18 => ?_)
    · have b_14 := b_14.resolve_left c_18
      obtain ⟨-, h_16, h_17⟩ := b_14
      refine g_iconst (n := 23) hx (dq tX10_winter 11 rfl) rfl ?_
      refine g_istore_n (n := 24) (lv' := [(2, vI 0), (0, aR Γ 229), (1, vI n)]) hx (dq tX10_winter 12 rfl) (by decide) rfl rfl ?_
      refine g_iconst (n := 25) hx (dq tX10_winter 13 rfl) rfl ?_
      refine g_istore_n (n := 26) (lv' := [(3, vI 0), (2, vI 0), (0, aR Γ 229), (1, vI n)]) hx (dq tX10_winter 14 rfl) (by decide) rfl rfl ?_
      have L_22 : ∀ (n_ : Nat) (i_19 : Int) (i_20 : Int) (M_21 : zM), (0 ≤ i_19) → (i_19 ≤ 36) → ((-2147483648) ≤ i_20) → (i_20 ≤ 2147483647) → (∀ u_ v_, u_ ≠ 229 + 8 → M_21 u_ v_ = M u_ v_) → ((36 - i_19).toNat = n_) → G Γ x 4 (QI Γ x (qctX10_winter M n)) M_21 26 [(3, vI i_19), (2, vI i_20), (0, aR Γ 229), (1, vI n)] [] := by
        intro n_
        induction n_ using Nat.strongRecOn with
        | _ n_ ih_23 =>
          intro i_19 i_20 M_21 h_26 h_27 h_28 h_29 f_24 hm_25
          refine g_iload_n (n := 27) hx 0 (dq tX10_winter 15 rfl) rfl rfl ?_
          refine g_aload_n (n := 28) hx 2 (dq tX10_winter 16 rfl) rfl rfl ?_
          refine g_getR (n := 31) hx glX10_31 (sX10_8 (by decide)) (dq tX10_winter 17 rfl) rfl ?_
          refine g_alen (n := 32) hx (akI (aX10_8 (b := 229) (by decide))) (dq tX10_winter 18 rfl) rfl ?_
          refine g_icmp_ge (n := 35) (t := 67) hx (dq tX10_winter 19 rfl) (by decide) rfl ⟨by omega, by omega⟩ ⟨by decide, by decide⟩ (fun c_30 => ?_) (fun c_30 => ?_)
          · refine g_iload_n (n := 68) hx 1 (dq tX10_winter 40 rfl) rfl rfl ?_
            have e_31 : M_21 (229 + 1) 1 = M (229 + 1) 1 := (f_24 (229 + 1) 1 (by omega))
            have e_32 : M_21 (229 + 1) 3 = M (229 + 1) 3 := (f_24 (229 + 1) 3 (by omega))
            exact g_iret hx hr (dq tX10_winter 41 rfl) ⟨by omega, by omega⟩ (fun u_ v_ huv_ => (f_24 u_ v_ (by omega)))
          · refine g_aload_n (n := 36) hx 2 (dq tX10_winter 20 rfl) rfl rfl ?_
            refine g_getR (n := 39) hx glX10_31 (sX10_8 (by decide)) (dq tX10_winter 21 rfl) rfl ?_
            refine g_iload_n (n := 40) hx 0 (dq tX10_winter 22 rfl) rfl rfl ?_
            refine g_iald (n := 41) (q := i_19.toNat) hx (aX10_8 (b := 229) (by decide)) (dq tX10_winter 23 rfl) rfl (by omega) (by omega) (by omega) rfl (fun h_33l h_33u => ?_)
            refine g_iload_n (n := 42) hx 3 (dq tX10_winter 24 rfl) rfl rfl ?_
            refine g_icmp_gt (n := 45) (t := 61) hx (dq tX10_winter 25 rfl) (by decide) rfl (zrI h_33l h_33u (by decide) (by decide)) (zrI hnl hnu (by decide) (by decide)) (fun c_34 => ?_) (fun c_34 => ?_)
            · refine g_iinc (n := 64) (lv' := [(3, vI (i_19 + 1)), (2, vI i_20), (0, aR Γ 229), (1, vI n)]) hx 0 (dq tX10_winter 38 rfl) rfl (by decide) rfl rfl ?_
              refine g_goto (n := 26) hx (dq tX10_winter 39 rfl) (by decide) ?_
              have e_35 : M_21 (229 + 1) 1 = M (229 + 1) 1 := (f_24 (229 + 1) 1 (by omega))
              have e_36 : M_21 (229 + 1) 3 = M (229 + 1) 3 := (f_24 (229 + 1) 3 (by omega))
              exact ih_23 _ (by omega) (i_19 + 1) i_20 M_21 (by omega) (by omega) (by omega) (by omega) (fun u_ v_ huv_ => (f_24 u_ v_ (by omega))) rfl
            · refine g_iload_n (n := 46) hx 1 (dq tX10_winter 26 rfl) rfl rfl ?_
              refine g_aload_n (n := 47) hx 2 (dq tX10_winter 27 rfl) rfl rfl ?_
              refine g_getR (n := 50) hx glX10_31 (sX10_8 (by decide)) (dq tX10_winter 28 rfl) rfl ?_
              refine g_iload_n (n := 51) hx 0 (dq tX10_winter 29 rfl) rfl rfl ?_
              refine g_iald (n := 52) (q := i_19.toNat) hx (aX10_8 (b := 229) (by decide)) (dq tX10_winter 30 rfl) rfl (by omega) (by omega) (by omega) rfl (fun h_37l h_37u => ?_)
              refine g_iadd (n := 53) hx (dq tX10_winter 31 rfl) rfl ?_
              refine g_any (fun z_38 h_39 => ?_)
              refine g_istore_n (n := 54) (lv' := [(2, vI z_38), (3, vI i_19), (0, aR Γ 229), (1, vI n)]) hx (dq tX10_winter 32 rfl) (by decide) rfl rfl ?_
              refine g_aload_n (n := 55) hx 2 (dq tX10_winter 33 rfl) rfl rfl ?_
              refine g_getR (n := 58) hx glX10_31 (sX10_8 (by decide)) (dq tX10_winter 34 rfl) rfl ?_
              refine g_iload_n (n := 59) hx 1 (dq tX10_winter 35 rfl) rfl rfl ?_
              refine g_iconst (n := 60) hx (dq tX10_winter 36 rfl) rfl ?_
              have e_40 : M_21 (229 + 1) 1 = M (229 + 1) 1 := (f_24 (229 + 1) 1 (by omega))
              have e_41 : M_21 (229 + 1) 3 = M (229 + 1) 3 := (f_24 (229 + 1) 3 (by omega))
              refine g_iast (n := 61) (q := i_19.toNat) hx (aX10_8 (b := 229) (by decide)) (dq tX10_winter 37 rfl) rfl (by omega) (by omega) (by omega) rfl (by omega) (by omega) (fun M_42 m_43e m_43 => ?_)
              refine g_iinc (n := 64) (lv' := [(3, vI (i_19 + 1)), (2, vI z_38), (0, aR Γ 229), (1, vI n)]) hx 1 (dq tX10_winter 38 rfl) rfl (by decide) rfl rfl ?_
              refine g_goto (n := 26) hx (dq tX10_winter 39 rfl) (by decide) ?_
              have e_44 : M_42 (229 + 1) 1 = M_21 (229 + 1) 1 := (m_43 (229 + 1) 1 (by omega))
              have e_45 : M_42 (229 + 1) 3 = M_21 (229 + 1) 3 := (m_43 (229 + 1) 3 (by omega))
              exact ih_23 _ (by omega) (i_19 + 1) z_38 M_42 (by omega) (by omega) (by omega) (by omega) (fun u_ v_ huv_ => ((m_43 u_ v_ (by omega)).trans (f_24 u_ v_ (by omega)))) rfl
      exact L_22 _ 0 0 M (by omega) (by omega) (by omega) (by omega) (fun _ _ _ => rfl) rfl
    · clear b_14
      refine g_bipush (n := 21) hx (dq tX10_winter 9 rfl) rfl (by decide) ?_
      exact g_iret hx hr (dq tX10_winter 10 rfl) ⟨by decide, by decide⟩ (fun _ _ _ => rfl)

abbrev qctX10_payments (M : zM)  (z : Int) (M' : zM) : Prop := (∀ u_ v_, u_ ≠ 229 + 55 → M' u_ v_ = M u_ v_)
set_option maxHeartbeats 4000000 in
set_option maxRecDepth 100000 in
theorem ctX10_payments (Γ : Gam) (M : zM)   : CtI Γ yX10_payments cX10_payments 7 (some .int) 1 23 [aR Γ 229] M (qctX10_payments M) := by
  refine met_i (by decide) (Nat.le_of_ble_eq_true rfl) (fun x hx hr => ?_)
  show G Γ x 7 (QI Γ x (qctX10_payments M)) M 0 [(0, aR Γ 229)] []
  refine g_aload_n (n := 1) hx 0 (dq tX10_payments 0 rfl) rfl rfl ?_
  refine g_callVi (n := 4) (As := []) (rest := []) hx (ctX10_isRiver Γ M ) mlX10_413 (obX10 (by decide)) (dq tX10_payments 1 rfl) rfl (Nat.le_of_ble_eq_true rfl) (Nat.le_of_ble_eq_true rfl) (Nat.le_of_ble_eq_true rfl) rfl (fun z_1 M_2 h_3 p_4 => ?_)
  obtain ⟨rfl, b_6⟩ := p_4
  refine g_if_ne (n := 7) (t := 9) hx (dq tX10_payments 2 rfl) (by decide) rfl h_3 (fun c_8 => ?_) (fun c_8 => ?_)
  · have b_6 := b_6.resolve_left c_8
    obtain ⟨-, h_7⟩ := b_6
    refine g_iconst (n := 10) hx (dq tX10_payments 5 rfl) rfl ?_
    refine g_istore_n (n := 11) (lv' := [(1, vI 0), (0, aR Γ 229)]) hx (dq tX10_payments 6 rfl) (by decide) rfl rfl ?_
    refine g_iconst (n := 12) hx (dq tX10_payments 7 rfl) rfl ?_
    refine g_istore_n (n := 13) (lv' := [(2, vI 0), (1, vI 0), (0, aR Γ 229)]) hx (dq tX10_payments 8 rfl) (by decide) rfl rfl ?_
    have L_11 : ∀ (n_ : Nat) (i_9 : Int) (i_10 : Int), (0 ≤ i_9) → (i_9 ≤ 6) → (0 ≤ i_10) → (i_10 ≤ 63) → ((6 - i_9).toNat = n_) → G Γ x 7 (QI Γ x (qctX10_payments M)) M 13 [(2, vI i_9), (1, vI i_10), (0, aR Γ 229)] [] := by
      intro n_
      induction n_ using Nat.strongRecOn with
      | _ n_ ih_12 =>
        intro i_9 i_10 h_15 h_16 h_17 h_18 hm_14
        refine g_iload_n (n := 14) hx 0 (dq tX10_payments 9 rfl) rfl rfl ?_
        refine g_aload_n (n := 15) hx 2 (dq tX10_payments 10 rfl) rfl rfl ?_
        refine g_getR (n := 18) hx glX10_9 (sX10_1 (by decide)) (dq tX10_payments 11 rfl) rfl ?_
        refine g_iconst (n := 19) hx (dq tX10_payments 12 rfl) rfl ?_
        refine g_ialdX (n := 20) (q := 1) hx (aX10_1 (b := 229) (by decide)) (dq tX10_payments 13 rfl) rfl (by decide) (by decide) (by decide) rfl (fun h_19l h_19u => ?_)
        have h_19l : 0 ≤ M (229 + 1) 1 := h_19l
        have h_19u : M (229 + 1) 1 ≤ 6 := h_19u
        refine g_icmp_ge (n := 23) (t := 47) hx (dq tX10_payments 14 rfl) (by decide) rfl ⟨by omega, by omega⟩ (zrI h_19l h_19u (by decide) (by decide)) (fun c_20 => ?_) (fun c_20 => ?_)
        · refine g_iconst (n := 48) hx (dq tX10_payments 29 rfl) rfl ?_
          refine g_istore_n (n := 49) (lv' := [(2, vI 0), (1, vI i_10), (0, aR Γ 229)]) hx (dq tX10_payments 30 rfl) (by decide) rfl rfl ?_
          have L_23 : ∀ (n_ : Nat) (i_21 : Int) (M_22 : zM), (0 ≤ i_21) → (i_21 ≤ 64) → (∀ u_ v_, u_ ≠ 229 + 55 → M_22 u_ v_ = M u_ v_) → ((64 - i_21).toNat = n_) → G Γ x 7 (QI Γ x (qctX10_payments M)) M_22 49 [(2, vI i_21), (1, vI i_10), (0, aR Γ 229)] [] := by
            intro n_
            induction n_ using Nat.strongRecOn with
            | _ n_ ih_24 =>
              intro i_21 M_22 h_27 h_28 f_25 hm_26
              refine g_iload_n (n := 50) hx 0 (dq tX10_payments 31 rfl) rfl rfl ?_
              refine g_bipush (n := 52) hx (dq tX10_payments 32 rfl) rfl (by decide) ?_
              refine g_icmp_ge (n := 55) (t := 165) hx (dq tX10_payments 33 rfl) (by decide) rfl ⟨by omega, by omega⟩ ⟨by decide, by decide⟩ (fun c_29 => ?_) (fun c_29 => ?_)
              · refine g_iload_n (n := 166) hx 1 (dq tX10_payments 99 rfl) rfl rfl ?_
                have e_30 : M_22 (229 + 1) 1 = M (229 + 1) 1 := (f_25 (229 + 1) 1 (by omega))
                have e_31 : M_22 (229 + 1) 3 = M (229 + 1) 3 := (f_25 (229 + 1) 3 (by omega))
                refine g_callSi (n := 169) (As := [vI i_10]) (rest := []) hx (ctX10_bits Γ M_22 i_10 (by omega) (by omega)) mlX10_210 (dq tX10_payments 100 rfl) rfl (Nat.le_of_ble_eq_true rfl) (Nat.le_of_ble_eq_true rfl) (Nat.le_of_ble_eq_true rfl) rfl (fun z_32 M_33 h_34 p_35 => ?_)
                obtain rfl := p_35
                refine g_aload_n (n := 170) hx 2 (dq tX10_payments 101 rfl) rfl rfl ?_
                refine g_getR (n := 173) hx glX10_178 (sX10_75 (by decide)) (dq tX10_payments 102 rfl) rfl ?_
                refine g_iload_n (n := 174) hx 1 (dq tX10_payments 103 rfl) rfl rfl ?_
                refine g_iald (n := 175) (q := i_10.toNat) hx (aX10_75 (b := 229) (by decide)) (dq tX10_payments 104 rfl) rfl (by omega) (by omega) (by omega) rfl (fun h_37l h_37u => ?_)
                refine g_isub (n := 176) hx (dq tX10_payments 105 rfl) rfl ?_
                refine g_any (fun z_38 h_39 => ?_)
                exact g_iret hx hr (dq tX10_payments 106 rfl) h_39 (fun u_ v_ huv_ => (f_25 u_ v_ (by omega)))
              · refine g_iconst (n := 56) hx (dq tX10_payments 34 rfl) rfl ?_
                refine g_istore_n (n := 57) (lv' := [(3, vI 0), (2, vI i_21), (1, vI i_10), (0, aR Γ 229)]) hx (dq tX10_payments 35 rfl) (by decide) rfl rfl ?_
                refine g_iconst (n := 58) hx (dq tX10_payments 36 rfl) rfl ?_
                refine g_istore (n := 60) (lv' := [(4, vI 0), (3, vI 0), (2, vI i_21), (1, vI i_10), (0, aR Γ 229)]) hx (dq tX10_payments 37 rfl) (by decide) rfl rfl ?_
                refine g_iconst (n := 61) hx (dq tX10_payments 38 rfl) rfl ?_
                refine g_istore (n := 63) (lv' := [(5, vI 0), (4, vI 0), (3, vI 0), (2, vI i_21), (1, vI i_10), (0, aR Γ 229)]) hx (dq tX10_payments 39 rfl) (by decide) rfl rfl ?_
                have L_43 : ∀ (n_ : Nat) (i_40 : Int) (i_41 : Int) (i_42 : Int), (0 ≤ i_40) → (i_40 ≤ 6) → (0 ≤ i_41) → (i_41 ≤ 2147483647) → ((-2147483648) ≤ i_42) → (i_42 ≤ 2147483647) → ((6 - i_40).toNat = n_) → G Γ x 7 (QI Γ x (qctX10_payments M)) M_22 63 [(5, vI i_40), (4, vI i_41), (3, vI i_42), (2, vI i_21), (1, vI i_10), (0, aR Γ 229)] [] := by
                  intro n_
                  induction n_ using Nat.strongRecOn with
                  | _ n_ ih_44 =>
                    intro i_40 i_41 i_42 h_47 h_48 h_49 h_50 h_51 h_52 hm_46
                    refine g_iload (n := 65) hx 0 (dq tX10_payments 40 rfl) rfl rfl ?_
                    refine g_aload_n (n := 66) hx 5 (dq tX10_payments 41 rfl) rfl rfl ?_
                    refine g_getR (n := 69) hx glX10_9 (sX10_1 (by decide)) (dq tX10_payments 42 rfl) rfl ?_
                    refine g_iconst (n := 70) hx (dq tX10_payments 43 rfl) rfl ?_
                    refine g_ialdX (n := 71) (q := 1) hx (aX10_1 (b := 229) (by decide)) (dq tX10_payments 44 rfl) rfl (by decide) (by decide) (by decide) rfl (fun h_53l h_53u => ?_)
                    have h_53l : 0 ≤ M_22 (229 + 1) 1 := h_53l
                    have h_53u : M_22 (229 + 1) 1 ≤ 6 := h_53u
                    have e_54 : M_22 (229 + 1) 1 = M (229 + 1) 1 := (f_25 (229 + 1) 1 (by omega))
                    refine g_icmp_ge (n := 74) (t := 130) hx (dq tX10_payments 45 rfl) (by decide) rfl ⟨by omega, by omega⟩ (zrI h_53l h_53u (by decide) (by decide)) (fun c_55 => ?_) (fun c_55 => ?_)
                    · refine g_aload_n (n := 131) hx 5 (dq tX10_payments 79 rfl) rfl rfl ?_
                      refine g_getR (n := 134) hx glX10_178 (sX10_75 (by decide)) (dq tX10_payments 80 rfl) rfl ?_
                      refine g_iload_n (n := 135) hx 3 (dq tX10_payments 81 rfl) rfl rfl ?_
                      refine g_iload (n := 137) hx 1 (dq tX10_payments 82 rfl) rfl rfl ?_
                      refine g_iload_n (n := 138) hx 3 (dq tX10_payments 83 rfl) rfl rfl ?_
                      refine g_if_eq (n := 141) (t := 156) hx (dq tX10_payments 84 rfl) (by decide) rfl ⟨by omega, by omega⟩ (fun c_56 => ?_) (fun c_56 => ?_)
                      · refine g_iconst (n := 157) hx (dq tX10_payments 94 rfl) rfl ?_
                        refine g_iadd (n := 158) hx (dq tX10_payments 95 rfl) rfl ?_
                        have e_57 : M_22 (229 + 1) 3 = M (229 + 1) 3 := (f_25 (229 + 1) 3 (by omega))
                        refine g_iast (n := 159) (q := i_21.toNat) hx (aX10_75 (b := 229) (by decide)) (dq tX10_payments 96 rfl) rfl (by omega) (by omega) (by omega) rfl (by omega) (by omega) (fun M_58 m_59e m_59 => ?_)
                        refine g_iinc (n := 162) (lv' := [(2, vI (i_21 + 1)), (5, vI i_40), (4, vI i_41), (3, vI i_42), (1, vI i_10), (0, aR Γ 229)]) hx 3 (dq tX10_payments 97 rfl) rfl (by decide) rfl rfl ?_
                        refine g_goto (n := 49) hx (dq tX10_payments 98 rfl) (by decide) ?_
                        have e_60 : M_58 (229 + 1) 1 = M_22 (229 + 1) 1 := (m_59 (229 + 1) 1 (by omega))
                        have e_61 : M_58 (229 + 1) 3 = M_22 (229 + 1) 3 := (m_59 (229 + 1) 3 (by omega))
                        refine g_lv [0, 4, 5] rfl ?_
                        exact ih_24 _ (by omega) (i_21 + 1) M_58 (by omega) (by omega) (fun u_ v_ huv_ => ((m_59 u_ v_ (by omega)).trans (f_25 u_ v_ (by omega)))) rfl
                      · refine g_iload_n (n := 142) hx 3 (dq tX10_payments 85 rfl) rfl rfl ?_
                        refine g_iload_n (n := 143) hx 4 (dq tX10_payments 86 rfl) rfl rfl ?_
                        refine g_iand (n := 144) hx (dq tX10_payments 87 rfl) rfl (fun z_62 h_63 h_641 h_642 => ?_)
                        obtain ⟨h_643, h_644⟩ := h_641 (by omega) (by omega)
                        clear h_641 h_642
                        refine g_iload_n (n := 145) hx 3 (dq tX10_payments 88 rfl) rfl rfl ?_
                        refine g_icmp_ne (n := 148) (t := 156) hx (dq tX10_payments 89 rfl) (by decide) rfl h_63 ⟨by omega, by omega⟩ (fun c_65 => ?_) (fun c_65 => ?_)
                        · refine g_iconst (n := 157) hx (dq tX10_payments 94 rfl) rfl ?_
                          refine g_iadd (n := 158) hx (dq tX10_payments 95 rfl) rfl ?_
                          have e_66 : M_22 (229 + 1) 3 = M (229 + 1) 3 := (f_25 (229 + 1) 3 (by omega))
                          refine g_iast (n := 159) (q := i_21.toNat) hx (aX10_75 (b := 229) (by decide)) (dq tX10_payments 96 rfl) rfl (by omega) (by omega) (by omega) rfl (by omega) (by omega) (fun M_67 m_68e m_68 => ?_)
                          refine g_iinc (n := 162) (lv' := [(2, vI (i_21 + 1)), (5, vI i_40), (4, vI i_41), (3, vI i_42), (1, vI i_10), (0, aR Γ 229)]) hx 3 (dq tX10_payments 97 rfl) rfl (by decide) rfl rfl ?_
                          refine g_goto (n := 49) hx (dq tX10_payments 98 rfl) (by decide) ?_
                          have e_69 : M_67 (229 + 1) 1 = M_22 (229 + 1) 1 := (m_68 (229 + 1) 1 (by omega))
                          have e_70 : M_67 (229 + 1) 3 = M_22 (229 + 1) 3 := (m_68 (229 + 1) 3 (by omega))
                          refine g_lv [0, 4, 5] rfl ?_
                          exact ih_24 _ (by omega) (i_21 + 1) M_67 (by omega) (by omega) (fun u_ v_ huv_ => ((m_68 u_ v_ (by omega)).trans (f_25 u_ v_ (by omega)))) rfl
                        · refine g_iload_n (n := 149) hx 2 (dq tX10_payments 90 rfl) rfl rfl ?_
                          refine g_if_ne (n := 152) (t := 156) hx (dq tX10_payments 91 rfl) (by decide) rfl ⟨by omega, by omega⟩ (fun c_71 => ?_) (fun c_71 => ?_)
                          · refine g_iconst (n := 157) hx (dq tX10_payments 94 rfl) rfl ?_
                            refine g_iadd (n := 158) hx (dq tX10_payments 95 rfl) rfl ?_
                            have e_72 : M_22 (229 + 1) 3 = M (229 + 1) 3 := (f_25 (229 + 1) 3 (by omega))
                            refine g_iast (n := 159) (q := i_21.toNat) hx (aX10_75 (b := 229) (by decide)) (dq tX10_payments 96 rfl) rfl (by omega) (by omega) (by omega) rfl (by omega) (by omega) (fun M_73 m_74e m_74 => ?_)
                            refine g_iinc (n := 162) (lv' := [(2, vI (i_21 + 1)), (5, vI i_40), (4, vI i_41), (3, vI i_42), (1, vI i_10), (0, aR Γ 229)]) hx 3 (dq tX10_payments 97 rfl) rfl (by decide) rfl rfl ?_
                            refine g_goto (n := 49) hx (dq tX10_payments 98 rfl) (by decide) ?_
                            have e_75 : M_73 (229 + 1) 1 = M_22 (229 + 1) 1 := (m_74 (229 + 1) 1 (by omega))
                            have e_76 : M_73 (229 + 1) 3 = M_22 (229 + 1) 3 := (m_74 (229 + 1) 3 (by omega))
                            refine g_lv [0, 4, 5] rfl ?_
                            exact ih_24 _ (by omega) (i_21 + 1) M_73 (by omega) (by omega) (fun u_ v_ huv_ => ((m_74 u_ v_ (by omega)).trans (f_25 u_ v_ (by omega)))) rfl
                          · refine g_iconst (n := 153) hx (dq tX10_payments 92 rfl) rfl ?_
                            refine g_goto (n := 157) hx (dq tX10_payments 93 rfl) (by decide) ?_
                            refine g_iadd (n := 158) hx (dq tX10_payments 95 rfl) rfl ?_
                            refine g_any (fun z_77 h_78 => ?_)
                            have e_79 : M_22 (229 + 1) 3 = M (229 + 1) 3 := (f_25 (229 + 1) 3 (by omega))
                            refine g_iast (n := 159) (q := i_21.toNat) hx (aX10_75 (b := 229) (by decide)) (dq tX10_payments 96 rfl) rfl (by omega) (by omega) (by omega) rfl (by omega) (by omega) (fun M_80 m_81e m_81 => ?_)
                            refine g_iinc (n := 162) (lv' := [(2, vI (i_21 + 1)), (5, vI i_40), (4, vI i_41), (3, vI i_42), (1, vI i_10), (0, aR Γ 229)]) hx 3 (dq tX10_payments 97 rfl) rfl (by decide) rfl rfl ?_
                            refine g_goto (n := 49) hx (dq tX10_payments 98 rfl) (by decide) ?_
                            have e_82 : M_80 (229 + 1) 1 = M_22 (229 + 1) 1 := (m_81 (229 + 1) 1 (by omega))
                            have e_83 : M_80 (229 + 1) 3 = M_22 (229 + 1) 3 := (m_81 (229 + 1) 3 (by omega))
                            refine g_lv [0, 4, 5] rfl ?_
                            exact ih_24 _ (by omega) (i_21 + 1) M_80 (by omega) (by omega) (fun u_ v_ huv_ => ((m_81 u_ v_ (by omega)).trans (f_25 u_ v_ (by omega)))) rfl
                    · refine g_iload_n (n := 75) hx 3 (dq tX10_payments 46 rfl) rfl rfl ?_
                      refine g_iload (n := 77) hx 0 (dq tX10_payments 47 rfl) rfl rfl ?_
                      refine g_ishr (n := 78) hx (dq tX10_payments 48 rfl) rfl (fun z_84 h_85 => ?_)
                      refine g_iconst (n := 79) hx (dq tX10_payments 49 rfl) rfl ?_
                      refine g_iand (n := 80) hx (dq tX10_payments 50 rfl) rfl (fun z_87 h_88 h_891 h_892 => ?_)
                      obtain ⟨h_893, h_894⟩ := h_891 (by omega) (by omega)
                      clear h_891 h_892
                      refine g_iconst (n := 81) hx (dq tX10_payments 51 rfl) rfl ?_
                      refine g_icmp_ne (n := 84) (t := 124) hx (dq tX10_payments 52 rfl) (by decide) rfl h_88 ⟨by decide, by decide⟩ (fun c_90 => ?_) (fun c_90 => ?_)
                      · refine g_iinc (n := 127) (lv' := [(5, vI (i_40 + 1)), (4, vI i_41), (3, vI i_42), (2, vI i_21), (1, vI i_10), (0, aR Γ 229)]) hx 0 (dq tX10_payments 77 rfl) rfl (by decide) rfl rfl ?_
                        refine g_goto (n := 63) hx (dq tX10_payments 78 rfl) (by decide) ?_
                        have e_91 : M_22 (229 + 1) 3 = M (229 + 1) 3 := (f_25 (229 + 1) 3 (by omega))
                        exact ih_44 _ (by omega) (i_40 + 1) i_41 i_42 (by omega) (by omega) (by omega) (by omega) (by omega) (by omega) rfl
                      · refine g_iload_n (n := 85) hx 2 (dq tX10_payments 53 rfl) rfl rfl ?_
                        refine g_aload_n (n := 86) hx 5 (dq tX10_payments 54 rfl) rfl rfl ?_
                        refine g_iload (n := 88) hx 0 (dq tX10_payments 55 rfl) rfl rfl ?_
                        have e_92 : M_22 (229 + 1) 3 = M (229 + 1) 3 := (f_25 (229 + 1) 3 (by omega))
                        refine g_callVi (n := 91) (As := [vI i_40]) (rest := [vI i_42]) hx (ctX10_netOf Γ M_22 i_40 (by omega) (by omega)) mlX10_480 (obX10 (by decide)) (dq tX10_payments 56 rfl) rfl (Nat.le_of_ble_eq_true rfl) (Nat.le_of_ble_eq_true rfl) (Nat.le_of_ble_eq_true rfl) rfl (fun z_93 M_94 h_95 p_96 => ?_)
                        obtain rfl := p_96
                        refine g_iadd (n := 92) hx (dq tX10_payments 57 rfl) rfl ?_
                        refine g_any (fun z_98 h_99 => ?_)
                        refine g_istore_n (n := 93) (lv' := [(3, vI z_98), (5, vI i_40), (4, vI i_41), (2, vI i_21), (1, vI i_10), (0, aR Γ 229)]) hx (dq tX10_payments 58 rfl) (by decide) rfl rfl ?_
                        refine g_aload_n (n := 94) hx 5 (dq tX10_payments 59 rfl) rfl rfl ?_
                        refine g_getR (n := 97) hx glX10_178 (sX10_75 (by decide)) (dq tX10_payments 60 rfl) rfl ?_
                        refine g_iload_n (n := 98) hx 3 (dq tX10_payments 61 rfl) rfl rfl ?_
                        refine g_iconst (n := 99) hx (dq tX10_payments 62 rfl) rfl ?_
                        refine g_iload (n := 101) hx 1 (dq tX10_payments 63 rfl) rfl rfl ?_
                        refine g_ishl1 (n := 102) hx (dq tX10_payments 64 rfl) rfl (by omega) (by omega) ?_
                        refine g_nam (fun z_100 h_101 => ?_)
                        have h_1021 := pw1 (k := 5) (by omega) (by omega) h_101
                        obtain ⟨h_1022, h_1023⟩ := h_1021
                        refine g_iconst (n := 103) hx (dq tX10_payments 65 rfl) rfl ?_
                        refine g_ixor (n := 104) hx (dq tX10_payments 66 rfl) rfl (fun z_103 h_104 h_105 h_105s => ?_)
                        clear h_105 h_105s
                        refine g_iand (n := 105) hx (dq tX10_payments 67 rfl) rfl (fun z_106 h_107 h_1081 h_1082 => ?_)
                        obtain ⟨h_1083, h_1084⟩ := h_1082 (by omega) (by omega)
                        clear h_1081 h_1082
                        refine g_iald (n := 106) (q := z_106.toNat) hx (aX10_75 (b := 229) (by decide)) (dq tX10_payments 68 rfl) rfl (by omega) (by omega) (by omega) rfl (fun h_109l h_109u => ?_)
                        refine g_istore (n := 108) (lv' := [(6, vI (M_22 (229 + 55) z_106.toNat)), (3, vI z_98), (5, vI i_40), (4, vI i_41), (2, vI i_21), (1, vI i_10), (0, aR Γ 229)]) hx (dq tX10_payments 69 rfl) (by decide) rfl rfl ?_
                        refine g_iload (n := 110) hx 0 (dq tX10_payments 70 rfl) rfl rfl ?_
                        refine g_iload (n := 112) hx 3 (dq tX10_payments 71 rfl) rfl rfl ?_
                        refine g_icmp_le (n := 115) (t := 120) hx (dq tX10_payments 72 rfl) (by decide) rfl (zrI h_109l h_109u (by decide) (by decide)) ⟨by omega, by omega⟩ (fun c_110 => ?_) (fun c_110 => ?_)
                        · refine g_iload (n := 122) hx 3 (dq tX10_payments 75 rfl) rfl rfl ?_
                          refine g_istore (n := 124) (lv' := [(4, vI i_41), (6, vI (M_22 (229 + 55) z_106.toNat)), (3, vI z_98), (5, vI i_40), (2, vI i_21), (1, vI i_10), (0, aR Γ 229)]) hx (dq tX10_payments 76 rfl) (by decide) rfl rfl ?_
                          refine g_iinc (n := 127) (lv' := [(5, vI (i_40 + 1)), (4, vI i_41), (6, vI (M_22 (229 + 55) z_106.toNat)), (3, vI z_98), (2, vI i_21), (1, vI i_10), (0, aR Γ 229)]) hx 3 (dq tX10_payments 77 rfl) rfl (by decide) rfl rfl ?_
                          refine g_goto (n := 63) hx (dq tX10_payments 78 rfl) (by decide) ?_
                          refine g_lv [0, 1, 3, 4, 5, 6] rfl ?_
                          exact ih_44 _ (by omega) (i_40 + 1) i_41 z_98 (by omega) (by omega) (by omega) (by omega) (by omega) (by omega) rfl
                        · refine g_iload (n := 117) hx 0 (dq tX10_payments 73 rfl) rfl rfl ?_
                          refine g_goto (n := 122) hx (dq tX10_payments 74 rfl) (by decide) ?_
                          refine g_istore (n := 124) (lv' := [(4, vI (M_22 (229 + 55) z_106.toNat)), (6, vI (M_22 (229 + 55) z_106.toNat)), (3, vI z_98), (5, vI i_40), (2, vI i_21), (1, vI i_10), (0, aR Γ 229)]) hx (dq tX10_payments 76 rfl) (by decide) rfl rfl ?_
                          refine g_iinc (n := 127) (lv' := [(5, vI (i_40 + 1)), (4, vI (M_22 (229 + 55) z_106.toNat)), (6, vI (M_22 (229 + 55) z_106.toNat)), (3, vI z_98), (2, vI i_21), (1, vI i_10), (0, aR Γ 229)]) hx 3 (dq tX10_payments 77 rfl) rfl (by decide) rfl rfl ?_
                          refine g_goto (n := 63) hx (dq tX10_payments 78 rfl) (by decide) ?_
                          refine g_lv [0, 1, 3, 4, 5, 6] rfl ?_
                          exact ih_44 _ (by omega) (i_40 + 1) (M_22 (229 + 55) z_106.toNat) z_98 (by omega) (by omega) (by omega) (by omega) (by omega) (by omega) rfl
                have e_111 : M_22 (229 + 1) 1 = M (229 + 1) 1 := (f_25 (229 + 1) 1 (by omega))
                have e_112 : M_22 (229 + 1) 3 = M (229 + 1) 3 := (f_25 (229 + 1) 3 (by omega))
                exact L_43 _ 0 0 0 (by omega) (by omega) (by omega) (by omega) (by omega) (by omega) rfl
          exact L_23 _ 0 M (by omega) (by omega) (fun _ _ _ => rfl) rfl
        · refine g_iload_n (n := 24) hx 1 (dq tX10_payments 15 rfl) rfl rfl ?_
          refine g_aload_n (n := 25) hx 2 (dq tX10_payments 16 rfl) rfl rfl ?_
          refine g_iload_n (n := 26) hx 0 (dq tX10_payments 17 rfl) rfl rfl ?_
          refine g_callVi (n := 29) (As := [vI i_9]) (rest := [vI i_10]) hx (ctX10_netOf Γ M i_9 (by omega) (by omega)) mlX10_480 (obX10 (by decide)) (dq tX10_payments 18 rfl) rfl (Nat.le_of_ble_eq_true rfl) (Nat.le_of_ble_eq_true rfl) (Nat.le_of_ble_eq_true rfl) rfl (fun z_113 M_114 h_115 p_116 => ?_)
          obtain rfl := p_116
          refine g_if_eq (n := 32) (t := 38) hx (dq tX10_payments 19 rfl) (by decide) rfl h_115 (fun c_118 => ?_) (fun c_118 => ?_)
          · refine g_iconst (n := 39) hx (dq tX10_payments 24 rfl) rfl ?_
            refine g_ior (n := 40) hx (dq tX10_payments 25 rfl) rfl (fun z_119 h_120 h_121 => ?_)
            obtain ⟨h_1213, h_1214⟩ := h_121 6 (by decide) (by omega) (by omega) (by omega) (by omega)
            clear h_121
            refine g_istore_n (n := 41) (lv' := [(1, vI z_119), (2, vI i_9), (0, aR Γ 229)]) hx (dq tX10_payments 26 rfl) (by decide) rfl rfl ?_
            refine g_iinc (n := 44) (lv' := [(2, vI (i_9 + 1)), (1, vI z_119), (0, aR Γ 229)]) hx 1 (dq tX10_payments 27 rfl) rfl (by decide) rfl rfl ?_
            refine g_goto (n := 13) hx (dq tX10_payments 28 rfl) (by decide) ?_
            exact ih_12 _ (by omega) (i_9 + 1) z_119 (by omega) (by omega) (by omega) (by omega) rfl
          · refine g_iconst (n := 33) hx (dq tX10_payments 20 rfl) rfl ?_
            refine g_iload_n (n := 34) hx 0 (dq tX10_payments 21 rfl) rfl rfl ?_
            refine g_ishl1 (n := 35) hx (dq tX10_payments 22 rfl) rfl (by omega) (by omega) ?_
            refine g_nam (fun z_122 h_123 => ?_)
            have h_1241 := pw1 (k := 5) (by omega) (by omega) h_123
            obtain ⟨h_1242, h_1243⟩ := h_1241
            refine g_goto (n := 39) hx (dq tX10_payments 23 rfl) (by decide) ?_
            refine g_ior (n := 40) hx (dq tX10_payments 25 rfl) rfl (fun z_125 h_126 h_127 => ?_)
            obtain ⟨h_1273, h_1274⟩ := h_127 6 (by decide) (by omega) (by omega) (by omega) (by omega)
            clear h_127
            refine g_istore_n (n := 41) (lv' := [(1, vI z_125), (2, vI i_9), (0, aR Γ 229)]) hx (dq tX10_payments 26 rfl) (by decide) rfl rfl ?_
            refine g_iinc (n := 44) (lv' := [(2, vI (i_9 + 1)), (1, vI z_125), (0, aR Γ 229)]) hx 1 (dq tX10_payments 27 rfl) rfl (by decide) rfl rfl ?_
            refine g_goto (n := 13) hx (dq tX10_payments 28 rfl) (by decide) ?_
            exact ih_12 _ (by omega) (i_9 + 1) z_125 (by omega) (by omega) (by omega) (by omega) rfl
    exact L_11 _ 0 0 (by omega) (by omega) (by omega) (by omega) rfl
  · clear b_6
    refine g_iconst (n := 8) hx (dq tX10_payments 3 rfl) rfl ?_
    exact g_iret hx hr (dq tX10_payments 4 rfl) ⟨by decide, by decide⟩ (fun _ _ _ => rfl)

abbrev qctX10_kin (M : zM) (p : Int) (q : Int) (z : Int) (M' : zM) : Prop := M = M'
set_option maxHeartbeats 4000000 in
set_option maxRecDepth 100000 in
theorem ctX10_kin (Γ : Gam) (M : zM) (p : Int) (hpl : (-2147483648) ≤ p) (hpu : p ≤ 2147483647) (q : Int) (hql : (-2147483648) ≤ q) (hqu : q ≤ 2147483647)  : CtI Γ yX10_kin cX10_kin 5 (some .int) 2 46 [aR Γ 229, vI p, vI q] M (qctX10_kin M p q) := by
  refine met_i (by decide) (Nat.le_of_ble_eq_true rfl) (fun x hx hr => ?_)
  show G Γ x 5 (QI Γ x (qctX10_kin M p q)) M 0 [(0, aR Γ 229), (1, vI p), (2, vI q)] []
  refine g_aload_n (n := 1) hx 0 (dq tX10_kin 0 rfl) rfl rfl ?_
  refine g_iload_n (n := 2) hx 1 (dq tX10_kin 1 rfl) rfl rfl ?_
  refine g_callVi (n := 5) (As := [vI p]) (rest := []) hx (ctX10_isLog Γ M p (by omega) (by omega)) mlX10_483 (obX10 (by decide)) (dq tX10_kin 2 rfl) rfl (Nat.le_of_ble_eq_true rfl) (Nat.le_of_ble_eq_true rfl) (Nat.le_of_ble_eq_true rfl) rfl (fun z_1 M_2 h_3 p_4 => ?_)
  obtain ⟨rfl, b_6⟩ := p_4
  refine g_if_eq (n := 8) (t := 16) hx (dq tX10_kin 3 rfl) (by decide) rfl h_3 (fun c_10 => ?_) (fun c_10 => ?_)
  · clear b_6
    refine g_iconst (n := 17) hx (dq tX10_kin 8 rfl) rfl ?_
    exact g_iret hx hr (dq tX10_kin 9 rfl) ⟨by decide, by decide⟩ rfl
  · have b_6 := b_6.resolve_left c_10
    obtain ⟨-, h_7, h_8, h_9⟩ := b_6
    refine g_aload_n (n := 9) hx 0 (dq tX10_kin 4 rfl) rfl rfl ?_
    refine g_iload_n (n := 10) hx 2 (dq tX10_kin 5 rfl) rfl rfl ?_
    refine g_callVi (n := 13) (As := [vI q]) (rest := []) hx (ctX10_isLog Γ M q (by omega) (by omega)) mlX10_483 (obX10 (by decide)) (dq tX10_kin 6 rfl) rfl (Nat.le_of_ble_eq_true rfl) (Nat.le_of_ble_eq_true rfl) (Nat.le_of_ble_eq_true rfl) rfl (fun z_11 M_12 h_13 p_14 => ?_)
    obtain ⟨rfl, b_16⟩ := p_14
    refine g_if_ne (n := 16) (t := 18) hx (dq tX10_kin 7 rfl) (by decide) rfl h_13 (fun c_20 => ?_) (fun c_20 => ?_)
    · have b_16 := b_16.resolve_left c_20
      obtain ⟨-, h_17, h_18, h_19⟩ := b_16
      refine g_iconst (n := 19) hx (dq tX10_kin 10 rfl) rfl ?_
      refine g_iload_n (n := 20) hx 1 (dq tX10_kin 11 rfl) rfl rfl ?_
      refine g_ishl1 (n := 21) hx (dq tX10_kin 12 rfl) rfl (by omega) (by omega) ?_
      refine g_nam (fun z_21 h_22 => ?_)
      have h_231 := pw1 (k := 11) (by omega) (by omega) h_22
      obtain ⟨h_232, h_233⟩ := h_231
      refine g_istore_n (n := 22) (lv' := [(3, vI z_21), (0, aR Γ 229), (1, vI p), (2, vI q)]) hx (dq tX10_kin 13 rfl) (by decide) rfl rfl ?_
      refine g_iconst (n := 23) hx (dq tX10_kin 14 rfl) rfl ?_
      refine g_istore (n := 25) (lv' := [(4, vI 0), (3, vI z_21), (0, aR Γ 229), (1, vI p), (2, vI q)]) hx (dq tX10_kin 15 rfl) (by decide) rfl rfl ?_
      have L_26 : ∀ (n_ : Nat) (i_24 : Int) (i_25 : Int), (0 ≤ i_24) → (i_24 ≤ 13) → ((-2147483648) ≤ i_25) → (i_25 ≤ 2147483647) → ((13 - i_24).toNat = n_) → G Γ x 5 (QI Γ x (qctX10_kin M p q)) M 25 [(4, vI i_24), (3, vI i_25), (0, aR Γ 229), (1, vI p), (2, vI q)] [] := by
        intro n_
        induction n_ using Nat.strongRecOn with
        | _ n_ ih_27 =>
          intro i_24 i_25 h_30 h_31 h_32 h_33 hm_29
          refine g_iload (n := 27) hx 0 (dq tX10_kin 16 rfl) rfl rfl ?_
          refine g_bipush (n := 29) hx (dq tX10_kin 17 rfl) rfl (by decide) ?_
          refine g_icmp_gt (n := 32) (t := 56) hx (dq tX10_kin 18 rfl) (by decide) rfl ⟨by omega, by omega⟩ ⟨by decide, by decide⟩ (fun c_34 => ?_) (fun c_34 => ?_)
          · refine g_bipush (n := 58) hx (dq tX10_kin 34 rfl) rfl (by decide) ?_
            exact g_iret hx hr (dq tX10_kin 35 rfl) ⟨by decide, by decide⟩ rfl
          · refine g_iload_n (n := 33) hx 1 (dq tX10_kin 19 rfl) rfl rfl ?_
            refine g_iload_n (n := 34) hx 4 (dq tX10_kin 20 rfl) rfl rfl ?_
            refine g_ishr (n := 35) hx (dq tX10_kin 21 rfl) rfl (fun z_35 h_36 => ?_)
            refine g_iconst (n := 36) hx (dq tX10_kin 22 rfl) rfl ?_
            refine g_iand (n := 37) hx (dq tX10_kin 23 rfl) rfl (fun z_38 h_39 h_401 h_402 => ?_)
            obtain ⟨h_403, h_404⟩ := h_401 (by omega) (by omega)
            clear h_401 h_402
            refine g_iconst (n := 38) hx (dq tX10_kin 24 rfl) rfl ?_
            refine g_icmp_ne (n := 41) (t := 44) hx (dq tX10_kin 25 rfl) (by decide) rfl h_39 ⟨by decide, by decide⟩ (fun c_41 => ?_) (fun c_41 => ?_)
            · refine g_aload_n (n := 45) hx 2 (dq tX10_kin 28 rfl) rfl rfl ?_
              refine g_iload_n (n := 46) hx 1 (dq tX10_kin 29 rfl) rfl rfl ?_
              refine g_callVi (n := 49) (As := [vI i_25]) (rest := []) hx (ctX10_stepOfKin Γ M i_25 (by omega) (by omega)) mlX10_606 (obX10 (by decide)) (dq tX10_kin 30 rfl) rfl (Nat.le_of_ble_eq_true rfl) (Nat.le_of_ble_eq_true rfl) (Nat.le_of_ble_eq_true rfl) rfl (fun z_42 M_43 h_44 p_45 => ?_)
              obtain rfl := p_45
              refine g_istore_n (n := 50) (lv' := [(3, vI z_42), (4, vI i_24), (0, aR Γ 229), (1, vI p), (2, vI q)]) hx (dq tX10_kin 31 rfl) (by decide) rfl rfl ?_
              refine g_iinc (n := 53) (lv' := [(4, vI (i_24 + 1)), (3, vI z_42), (0, aR Γ 229), (1, vI p), (2, vI q)]) hx 1 (dq tX10_kin 32 rfl) rfl (by decide) rfl rfl ?_
              refine g_goto (n := 25) hx (dq tX10_kin 33 rfl) (by decide) ?_
              exact ih_27 _ (by omega) (i_24 + 1) z_42 (by omega) (by omega) (by omega) (by omega) rfl
            · refine g_iload (n := 43) hx 0 (dq tX10_kin 26 rfl) rfl rfl ?_
              exact g_iret hx hr (dq tX10_kin 27 rfl) ⟨by omega, by omega⟩ rfl
      exact L_26 _ 0 z_21 (by omega) (by omega) (by omega) (by omega) rfl
    · clear b_16
      refine g_iconst (n := 17) hx (dq tX10_kin 8 rfl) rfl ?_
      exact g_iret hx hr (dq tX10_kin 9 rfl) ⟨by decide, by decide⟩ rfl

abbrev qctX10_kinOf (M : zM) (p : Int) (z : Int) (M' : zM) : Prop := M = M'
set_option maxHeartbeats 4000000 in
set_option maxRecDepth 100000 in
theorem ctX10_kinOf (Γ : Gam) (M : zM) (p : Int) (hpl : (-2147483648) ≤ p) (hpu : p ≤ 2147483647)  : CtI Γ yX10_kinOf cX10_kinOf 4 (some .int) 2 46 [aR Γ 229, vI p] M (qctX10_kinOf M p) := by
  refine met_i (by decide) (Nat.le_of_ble_eq_true rfl) (fun x hx hr => ?_)
  show G Γ x 4 (QI Γ x (qctX10_kinOf M p)) M 0 [(0, aR Γ 229), (1, vI p)] []
  refine g_aload_n (n := 1) hx 0 (dq tX10_kinOf 0 rfl) rfl rfl ?_
  refine g_iload_n (n := 2) hx 1 (dq tX10_kinOf 1 rfl) rfl rfl ?_
  refine g_callVi (n := 5) (As := [vI p]) (rest := []) hx (ctX10_isLog Γ M p (by omega) (by omega)) mlX10_483 (obX10 (by decide)) (dq tX10_kinOf 2 rfl) rfl (Nat.le_of_ble_eq_true rfl) (Nat.le_of_ble_eq_true rfl) (Nat.le_of_ble_eq_true rfl) rfl (fun z_1 M_2 h_3 p_4 => ?_)
  obtain ⟨rfl, b_6⟩ := p_4
  refine g_if_ne (n := 8) (t := 10) hx (dq tX10_kinOf 3 rfl) (by decide) rfl h_3 (fun c_10 => ?_) (fun c_10 => ?_)
  · have b_6 := b_6.resolve_left c_10
    obtain ⟨-, h_7, h_8, h_9⟩ := b_6
    refine g_iconst (n := 11) hx (dq tX10_kinOf 6 rfl) rfl ?_
    refine g_iload_n (n := 12) hx 1 (dq tX10_kinOf 7 rfl) rfl rfl ?_
    refine g_ishl1 (n := 13) hx (dq tX10_kinOf 8 rfl) rfl (by omega) (by omega) ?_
    refine g_nam (fun z_11 h_12 => ?_)
    have h_131 := pw1 (k := 11) (by omega) (by omega) h_12
    obtain ⟨h_132, h_133⟩ := h_131
    refine g_istore_n (n := 14) (lv' := [(2, vI z_11), (0, aR Γ 229), (1, vI p)]) hx (dq tX10_kinOf 9 rfl) (by decide) rfl rfl ?_
    refine g_iconst (n := 15) hx (dq tX10_kinOf 10 rfl) rfl ?_
    refine g_istore_n (n := 16) (lv' := [(3, vI 0), (2, vI z_11), (0, aR Γ 229), (1, vI p)]) hx (dq tX10_kinOf 11 rfl) (by decide) rfl rfl ?_
    have L_16 : ∀ (n_ : Nat) (i_14 : Int) (i_15 : Int), (0 ≤ i_14) → (i_14 ≤ 12) → ((-2147483648) ≤ i_15) → (i_15 ≤ 2147483647) → ((12 - i_14).toNat = n_) → G Γ x 4 (QI Γ x (qctX10_kinOf M p)) M 16 [(3, vI i_14), (2, vI i_15), (0, aR Γ 229), (1, vI p)] [] := by
      intro n_
      induction n_ using Nat.strongRecOn with
      | _ n_ ih_17 =>
        intro i_14 i_15 h_20 h_21 h_22 h_23 hm_19
        refine g_iload_n (n := 17) hx 0 (dq tX10_kinOf 12 rfl) rfl rfl ?_
        refine g_bipush (n := 19) hx (dq tX10_kinOf 13 rfl) rfl (by decide) ?_
        refine g_icmp_ge (n := 22) (t := 34) hx (dq tX10_kinOf 14 rfl) (by decide) rfl ⟨by omega, by omega⟩ ⟨by decide, by decide⟩ (fun c_24 => ?_) (fun c_24 => ?_)
        · refine g_iload_n (n := 35) hx 1 (dq tX10_kinOf 21 rfl) rfl rfl ?_
          exact g_iret hx hr (dq tX10_kinOf 22 rfl) ⟨by omega, by omega⟩ rfl
        · refine g_aload_n (n := 23) hx 2 (dq tX10_kinOf 15 rfl) rfl rfl ?_
          refine g_iload_n (n := 24) hx 1 (dq tX10_kinOf 16 rfl) rfl rfl ?_
          refine g_callVi (n := 27) (As := [vI i_15]) (rest := []) hx (ctX10_stepOfKin Γ M i_15 (by omega) (by omega)) mlX10_606 (obX10 (by decide)) (dq tX10_kinOf 17 rfl) rfl (Nat.le_of_ble_eq_true rfl) (Nat.le_of_ble_eq_true rfl) (Nat.le_of_ble_eq_true rfl) rfl (fun z_25 M_26 h_27 p_28 => ?_)
          obtain rfl := p_28
          refine g_istore_n (n := 28) (lv' := [(2, vI z_25), (3, vI i_14), (0, aR Γ 229), (1, vI p)]) hx (dq tX10_kinOf 18 rfl) (by decide) rfl rfl ?_
          refine g_iinc (n := 31) (lv' := [(3, vI (i_14 + 1)), (2, vI z_25), (0, aR Γ 229), (1, vI p)]) hx 1 (dq tX10_kinOf 19 rfl) rfl (by decide) rfl rfl ?_
          refine g_goto (n := 16) hx (dq tX10_kinOf 20 rfl) (by decide) ?_
          exact ih_17 _ (by omega) (i_14 + 1) z_25 (by omega) (by omega) (by omega) (by omega) rfl
    exact L_16 _ 0 z_11 (by omega) (by omega) (by omega) (by omega) rfl
  · clear b_6
    refine g_iconst (n := 9) hx (dq tX10_kinOf 4 rfl) rfl ?_
    exact g_iret hx hr (dq tX10_kinOf 5 rfl) ⟨by decide, by decide⟩ rfl

abbrev qctX10_was (M : zM) (l : Int) (ago : Int) (z : Int) (M' : zM) : Prop := M = M'
set_option maxHeartbeats 4000000 in
set_option maxRecDepth 100000 in
theorem ctX10_was (Γ : Gam) (M : zM) (l : Int) (hll : (-2147483648) ≤ l) (hlu : l ≤ 2147483647) (ago : Int) (hagol : (-2147483648) ≤ ago) (hagou : ago ≤ 2147483647)  : CtI Γ yX10_was cX10_was 3 (some .int) 2 46 [aR Γ 229, vI l, vI ago] M (qctX10_was M l ago) := by
  refine met_i (by decide) (Nat.le_of_ble_eq_true rfl) (fun x hx hr => ?_)
  show G Γ x 3 (QI Γ x (qctX10_was M l ago)) M 0 [(0, aR Γ 229), (1, vI l), (2, vI ago)] []
  refine g_aload_n (n := 1) hx 0 (dq tX10_was 0 rfl) rfl rfl ?_
  refine g_iload_n (n := 2) hx 1 (dq tX10_was 1 rfl) rfl rfl ?_
  refine g_callVi (n := 5) (As := [vI l]) (rest := []) hx (ctX10_isLog Γ M l (by omega) (by omega)) mlX10_483 (obX10 (by decide)) (dq tX10_was 2 rfl) rfl (Nat.le_of_ble_eq_true rfl) (Nat.le_of_ble_eq_true rfl) (Nat.le_of_ble_eq_true rfl) rfl (fun z_1 M_2 h_3 p_4 => ?_)
  obtain ⟨rfl, b_6⟩ := p_4
  refine g_if_eq (n := 8) (t := 41) hx (dq tX10_was 3 rfl) (by decide) rfl h_3 (fun c_10 => ?_) (fun c_10 => ?_)
  · clear b_6
    refine g_bipush (n := 43) hx (dq tX10_was 25 rfl) rfl (by decide) ?_
    exact g_iret hx hr (dq tX10_was 26 rfl) ⟨by decide, by decide⟩ rfl
  · have b_6 := b_6.resolve_left c_10
    obtain ⟨-, h_7, h_8, h_9⟩ := b_6
    refine g_iload_n (n := 9) hx 2 (dq tX10_was 4 rfl) rfl rfl ?_
    refine g_i2l (n := 10) hx (dq tX10_was 5 rfl) rfl (zrI hagol hagou (by decide) (by decide)) ?_
    refine g_lconst (n := 11) (z := 1) hx (dq tX10_was 6 rfl) rfl (by decide) ?_
    refine g_aload_n (n := 12) hx 0 (dq tX10_was 7 rfl) rfl rfl ?_
    refine g_getR (n := 15) hx glX10_9 (sX10_1 (by decide)) (dq tX10_was 8 rfl) rfl ?_
    refine g_bipush (n := 17) hx (dq tX10_was 9 rfl) rfl (by decide) ?_
    refine g_ialdX (n := 18) (q := 14) hx (aX10_1 (b := 229) (by decide)) (dq tX10_was 10 rfl) rfl (by decide) (by decide) (by decide) rfl (fun h_11l h_11u => ?_)
    have h_11l : 0 ≤ M (229 + 1) 14 := h_11l
    have h_11u : M (229 + 1) 14 ≤ 30 := h_11u
    refine g_i2l (n := 19) hx (dq tX10_was 11 rfl) rfl (zrI h_11l h_11u (by decide) (by decide)) ?_
    refine g_callSi (n := 22) (As := [vL ago, vL 1, vL (M (229 + 1) 14)]) (rest := []) hx (ctX10_in Γ M ago (by omega) (by omega) 1 (by omega) (by omega) (M (229 + 1) 14) (by omega) (by omega)) mlX10_191 (dq tX10_was 12 rfl) rfl (Nat.le_of_ble_eq_true rfl) (Nat.le_of_ble_eq_true rfl) (Nat.le_of_ble_eq_true rfl) rfl (fun z_12 M_13 h_14 p_15 => ?_)
    obtain ⟨rfl, b_17, h_18⟩ := p_15
    refine g_if_eq (n := 25) (t := 41) hx (dq tX10_was 13 rfl) (by decide) rfl h_14 (fun c_21 => ?_) (fun c_21 => ?_)
    · clear b_17
      refine g_bipush (n := 43) hx (dq tX10_was 25 rfl) rfl (by decide) ?_
      exact g_iret hx hr (dq tX10_was 26 rfl) ⟨by decide, by decide⟩ rfl
    · have b_17 := b_17.resolve_left c_21
      obtain ⟨-, h_19, h_20⟩ := b_17
      refine g_aload_n (n := 26) hx 0 (dq tX10_was 14 rfl) rfl rfl ?_
      refine g_getR (n := 29) hx glX10_91 (sX10_28 (by decide)) (dq tX10_was 15 rfl) rfl ?_
      refine g_bipush (n := 31) hx (dq tX10_was 16 rfl) rfl (by decide) ?_
      refine g_iload_n (n := 32) hx 2 (dq tX10_was 17 rfl) rfl rfl ?_
      refine g_iconst (n := 33) hx (dq tX10_was 18 rfl) rfl ?_
      refine g_isub (n := 34) hx (dq tX10_was 19 rfl) rfl ?_
      refine g_imul (n := 35) hx (dq tX10_was 20 rfl) rfl ?_
      refine g_iload_n (n := 36) hx 1 (dq tX10_was 21 rfl) rfl rfl ?_
      refine g_iadd (n := 37) hx (dq tX10_was 22 rfl) rfl ?_
      refine g_iald (n := 38) (q := ((12 * (ago - 1)) + l).toNat) hx (aX10_28 (b := 229) (by decide)) (dq tX10_was 23 rfl) rfl (by omega) (by omega) (by omega) rfl (fun h_22l h_22u => ?_)
      refine g_goto (n := 43) hx (dq tX10_was 24 rfl) (by decide) ?_
      exact g_iret hx hr (dq tX10_was 26 rfl) (zrI h_22l h_22u (by decide) (by decide)) rfl

abbrev qctX10_atAgo (M : zM) (l : Int) (ago : Int) (z : Int) (M' : zM) : Prop := M = M'
set_option maxHeartbeats 4000000 in
set_option maxRecDepth 100000 in
theorem ctX10_atAgo (Γ : Gam) (M : zM) (l : Int) (hll : 0 ≤ l) (hlu : l ≤ 11) (ago : Int) (hagol : 1 ≤ ago) (hagou : ago ≤ 30)  : CtI Γ yX10_atAgo cX10_atAgo 6 (some .int) 0 0 [aR Γ 229, vI l, vI ago] M (qctX10_atAgo M l ago) := by
  refine met_i (by decide) (Nat.le_of_ble_eq_true rfl) (fun x hx hr => ?_)
  show G Γ x 6 (QI Γ x (qctX10_atAgo M l ago)) M 0 [(0, aR Γ 229), (1, vI l), (2, vI ago)] []
  refine g_aload_n (n := 1) hx 0 (dq tX10_atAgo 0 rfl) rfl rfl ?_
  refine g_getR (n := 4) hx glX10_91 (sX10_28 (by decide)) (dq tX10_atAgo 1 rfl) rfl ?_
  refine g_bipush (n := 6) hx (dq tX10_atAgo 2 rfl) rfl (by decide) ?_
  refine g_iload_n (n := 7) hx 2 (dq tX10_atAgo 3 rfl) rfl rfl ?_
  refine g_iconst (n := 8) hx (dq tX10_atAgo 4 rfl) rfl ?_
  refine g_isub (n := 9) hx (dq tX10_atAgo 5 rfl) rfl ?_
  refine g_imul (n := 10) hx (dq tX10_atAgo 6 rfl) rfl ?_
  refine g_iload_n (n := 11) hx 1 (dq tX10_atAgo 7 rfl) rfl rfl ?_
  refine g_iadd (n := 12) hx (dq tX10_atAgo 8 rfl) rfl ?_
  refine g_iald (n := 13) (q := ((12 * (ago - 1)) + l).toNat) hx (aX10_28 (b := 229) (by decide)) (dq tX10_atAgo 9 rfl) rfl (by omega) (by omega) (by omega) rfl (fun h_1l h_1u => ?_)
  refine g_istore_n (n := 14) (lv' := [(3, vI (M (229 + 28) (((12 * (ago - 1)) + l).toNat))), (0, aR Γ 229), (1, vI l), (2, vI ago)]) hx (dq tX10_atAgo 10 rfl) (by decide) rfl rfl ?_
  refine g_iconst (n := 15) hx (dq tX10_atAgo 11 rfl) rfl ?_
  refine g_istore (n := 17) (lv' := [(4, vI 0), (3, vI (M (229 + 28) (((12 * (ago - 1)) + l).toNat))), (0, aR Γ 229), (1, vI l), (2, vI ago)]) hx (dq tX10_atAgo 12 rfl) (by decide) rfl rfl ?_
  refine g_iconst (n := 18) hx (dq tX10_atAgo 13 rfl) rfl ?_
  refine g_istore (n := 20) (lv' := [(5, vI 0), (4, vI 0), (3, vI (M (229 + 28) (((12 * (ago - 1)) + l).toNat))), (0, aR Γ 229), (1, vI l), (2, vI ago)]) hx (dq tX10_atAgo 14 rfl) (by decide) rfl rfl ?_
  have L_4 : ∀ (n_ : Nat) (i_2 : Int) (i_3 : Int), (0 ≤ i_2) → (i_2 ≤ 6) → ((-2147483648) ≤ i_3) → (i_3 ≤ 2147483647) → ((6 - i_2).toNat = n_) → G Γ x 6 (QI Γ x (qctX10_atAgo M l ago)) M 20 [(5, vI i_2), (4, vI i_3), (3, vI (M (229 + 28) (((12 * (ago - 1)) + l).toNat))), (0, aR Γ 229), (1, vI l), (2, vI ago)] [] := by
    intro n_
    induction n_ using Nat.strongRecOn with
    | _ n_ ih_5 =>
      intro i_2 i_3 h_8 h_9 h_10 h_11 hm_7
      refine g_iload (n := 22) hx 0 (dq tX10_atAgo 15 rfl) rfl rfl ?_
      refine g_aload_n (n := 23) hx 3 (dq tX10_atAgo 16 rfl) rfl rfl ?_
      refine g_getR (n := 26) hx glX10_9 (sX10_1 (by decide)) (dq tX10_atAgo 17 rfl) rfl ?_
      refine g_iconst (n := 27) hx (dq tX10_atAgo 18 rfl) rfl ?_
      refine g_ialdX (n := 28) (q := 1) hx (aX10_1 (b := 229) (by decide)) (dq tX10_atAgo 19 rfl) rfl (by decide) (by decide) (by decide) rfl (fun h_12l h_12u => ?_)
      have h_12l : 0 ≤ M (229 + 1) 1 := h_12l
      have h_12u : M (229 + 1) 1 ≤ 6 := h_12u
      refine g_icmp_ge (n := 31) (t := 70) hx (dq tX10_atAgo 20 rfl) (by decide) rfl ⟨by omega, by omega⟩ (zrI h_12l h_12u (by decide) (by decide)) (fun c_13 => ?_) (fun c_13 => ?_)
      · refine g_iload (n := 72) hx 1 (dq tX10_atAgo 42 rfl) rfl rfl ?_
        exact g_iret hx hr (dq tX10_atAgo 43 rfl) ⟨by omega, by omega⟩ rfl
      · refine g_iload (n := 33) hx 1 (dq tX10_atAgo 21 rfl) rfl rfl ?_
        refine g_iload_n (n := 34) hx 2 (dq tX10_atAgo 22 rfl) rfl rfl ?_
        refine g_bipush (n := 36) hx (dq tX10_atAgo 23 rfl) rfl (by decide) ?_
        refine g_iload (n := 38) hx 0 (dq tX10_atAgo 24 rfl) rfl rfl ?_
        refine g_iadd (n := 39) hx (dq tX10_atAgo 25 rfl) rfl ?_
        refine g_icmp_eq (n := 42) (t := 53) hx (dq tX10_atAgo 26 rfl) (by decide) rfl (zrI h_1l h_1u (by decide) (by decide)) ⟨by omega, by omega⟩ (fun c_14 => ?_) (fun c_14 => ?_)
        · refine g_iconst (n := 54) hx (dq tX10_atAgo 33 rfl) rfl ?_
          refine g_iload (n := 56) hx 0 (dq tX10_atAgo 34 rfl) rfl rfl ?_
          refine g_ishl1 (n := 57) hx (dq tX10_atAgo 35 rfl) rfl (by omega) (by omega) ?_
          refine g_nam (fun z_15 h_16 => ?_)
          have h_171 := pw1 (k := 5) (by omega) (by omega) h_16
          obtain ⟨h_172, h_173⟩ := h_171
          refine g_goto (n := 61) hx (dq tX10_atAgo 36 rfl) (by decide) ?_
          refine g_ior (n := 62) hx (dq tX10_atAgo 38 rfl) rfl (fun z_18 h_19 h_20 => ?_)
          clear h_20
          refine g_istore (n := 64) (lv' := [(4, vI z_18), (5, vI i_2), (3, vI (M (229 + 28) (((12 * (ago - 1)) + l).toNat))), (0, aR Γ 229), (1, vI l), (2, vI ago)]) hx (dq tX10_atAgo 39 rfl) (by decide) rfl rfl ?_
          refine g_iinc (n := 67) (lv' := [(5, vI (i_2 + 1)), (4, vI z_18), (3, vI (M (229 + 28) (((12 * (ago - 1)) + l).toNat))), (0, aR Γ 229), (1, vI l), (2, vI ago)]) hx 1 (dq tX10_atAgo 40 rfl) rfl (by decide) rfl rfl ?_
          refine g_goto (n := 20) hx (dq tX10_atAgo 41 rfl) (by decide) ?_
          exact ih_5 _ (by omega) (i_2 + 1) z_18 (by omega) (by omega) (by omega) (by omega) rfl
        · refine g_iload_n (n := 43) hx 2 (dq tX10_atAgo 27 rfl) rfl rfl ?_
          refine g_aload_n (n := 44) hx 3 (dq tX10_atAgo 28 rfl) rfl rfl ?_
          refine g_getR (n := 47) hx glX10_22 (sX10_5 (by decide)) (dq tX10_atAgo 29 rfl) rfl ?_
          refine g_iload (n := 49) hx 0 (dq tX10_atAgo 30 rfl) rfl rfl ?_
          refine g_iald (n := 50) (q := i_2.toNat) hx (aX10_5 (b := 229) (by decide)) (dq tX10_atAgo 31 rfl) rfl (by omega) (by omega) (by omega) rfl (fun h_21l h_21u => ?_)
          refine g_icmp_ne (n := 53) (t := 60) hx (dq tX10_atAgo 32 rfl) (by decide) rfl (zrI h_1l h_1u (by decide) (by decide)) (zrI h_21l h_21u (by decide) (by decide)) (fun c_22 => ?_) (fun c_22 => ?_)
          · refine g_iconst (n := 61) hx (dq tX10_atAgo 37 rfl) rfl ?_
            refine g_ior (n := 62) hx (dq tX10_atAgo 38 rfl) rfl (fun z_23 h_24 h_25 => ?_)
            clear h_25
            refine g_istore (n := 64) (lv' := [(4, vI z_23), (5, vI i_2), (3, vI (M (229 + 28) (((12 * (ago - 1)) + l).toNat))), (0, aR Γ 229), (1, vI l), (2, vI ago)]) hx (dq tX10_atAgo 39 rfl) (by decide) rfl rfl ?_
            refine g_iinc (n := 67) (lv' := [(5, vI (i_2 + 1)), (4, vI z_23), (3, vI (M (229 + 28) (((12 * (ago - 1)) + l).toNat))), (0, aR Γ 229), (1, vI l), (2, vI ago)]) hx 1 (dq tX10_atAgo 40 rfl) rfl (by decide) rfl rfl ?_
            refine g_goto (n := 20) hx (dq tX10_atAgo 41 rfl) (by decide) ?_
            exact ih_5 _ (by omega) (i_2 + 1) z_23 (by omega) (by omega) (by omega) (by omega) rfl
          · refine g_iconst (n := 54) hx (dq tX10_atAgo 33 rfl) rfl ?_
            refine g_iload (n := 56) hx 0 (dq tX10_atAgo 34 rfl) rfl rfl ?_
            refine g_ishl1 (n := 57) hx (dq tX10_atAgo 35 rfl) rfl (by omega) (by omega) ?_
            refine g_nam (fun z_26 h_27 => ?_)
            have h_281 := pw1 (k := 5) (by omega) (by omega) h_27
            obtain ⟨h_282, h_283⟩ := h_281
            refine g_goto (n := 61) hx (dq tX10_atAgo 36 rfl) (by decide) ?_
            refine g_ior (n := 62) hx (dq tX10_atAgo 38 rfl) rfl (fun z_29 h_30 h_31 => ?_)
            clear h_31
            refine g_istore (n := 64) (lv' := [(4, vI z_29), (5, vI i_2), (3, vI (M (229 + 28) (((12 * (ago - 1)) + l).toNat))), (0, aR Γ 229), (1, vI l), (2, vI ago)]) hx (dq tX10_atAgo 39 rfl) (by decide) rfl rfl ?_
            refine g_iinc (n := 67) (lv' := [(5, vI (i_2 + 1)), (4, vI z_29), (3, vI (M (229 + 28) (((12 * (ago - 1)) + l).toNat))), (0, aR Γ 229), (1, vI l), (2, vI ago)]) hx 1 (dq tX10_atAgo 40 rfl) rfl (by decide) rfl rfl ?_
            refine g_goto (n := 20) hx (dq tX10_atAgo 41 rfl) (by decide) ?_
            exact ih_5 _ (by omega) (i_2 + 1) z_29 (by omega) (by omega) (by omega) (by omega) rfl
  exact L_4 _ 0 0 (by omega) (by omega) (by omega) (by omega) rfl

abbrev qctX10_wereAtIn (M : zM) (l : Int) (from_ : Int) (to_ : Int) (z : Int) (M' : zM) : Prop := M = M'
set_option maxHeartbeats 4000000 in
set_option maxRecDepth 100000 in
theorem ctX10_wereAtIn (Γ : Gam) (M : zM) (l : Int) (hll : 0 ≤ l) (hlu : l ≤ 11) (from_ : Int) (hfrom_l : (-2147483648) ≤ from_) (hfrom_u : from_ ≤ 2147483647) (to_ : Int) (hto_l : 1 ≤ to_) (hto_u : to_ ≤ 2147483647)  : CtI Γ yX10_wereAtIn cX10_wereAtIn 6 (some .int) 1 25 [aR Γ 229, vI l, vI from_, vI to_] M (qctX10_wereAtIn M l from_ to_) := by
  refine met_i (by decide) (Nat.le_of_ble_eq_true rfl) (fun x hx hr => ?_)
  show G Γ x 6 (QI Γ x (qctX10_wereAtIn M l from_ to_)) M 0 [(0, aR Γ 229), (1, vI l), (2, vI from_), (3, vI to_)] []
  refine g_iconst (n := 1) hx (dq tX10_wereAtIn 0 rfl) rfl ?_
  refine g_istore (n := 3) (lv' := [(4, vI 0), (0, aR Γ 229), (1, vI l), (2, vI from_), (3, vI to_)]) hx (dq tX10_wereAtIn 1 rfl) (by decide) rfl rfl ?_
  refine g_iload_n (n := 4) hx 4 (dq tX10_wereAtIn 2 rfl) rfl rfl ?_
  refine g_istore (n := 6) (lv' := [(5, vI to_), (4, vI 0), (0, aR Γ 229), (1, vI l), (2, vI from_), (3, vI to_)]) hx (dq tX10_wereAtIn 3 rfl) (by decide) rfl rfl ?_
  have L_3 : ∀ (n_ : Nat) (i_1 : Int) (i_2 : Int), (1 ≤ i_1) → (i_1 ≤ 2147483647) → ((-2147483648) ≤ i_2) → (i_2 ≤ 2147483647) → ((31 - i_1).toNat = n_) → G Γ x 6 (QI Γ x (qctX10_wereAtIn M l from_ to_)) M 6 [(5, vI i_1), (4, vI i_2), (0, aR Γ 229), (1, vI l), (2, vI from_), (3, vI to_)] [] := by
    intro n_
    induction n_ using Nat.strongRecOn with
    | _ n_ ih_4 =>
      intro i_1 i_2 h_7 h_8 h_9 h_10 hm_6
      refine g_iload (n := 8) hx 0 (dq tX10_wereAtIn 4 rfl) rfl rfl ?_
      refine g_iload_n (n := 9) hx 4 (dq tX10_wereAtIn 5 rfl) rfl rfl ?_
      refine g_icmp_gt (n := 12) (t := 42) hx (dq tX10_wereAtIn 6 rfl) (by decide) rfl ⟨by omega, by omega⟩ (zrI hfrom_l hfrom_u (by decide) (by decide)) (fun c_11 => ?_) (fun c_11 => ?_)
      · refine g_iload (n := 44) hx 1 (dq tX10_wereAtIn 22 rfl) rfl rfl ?_
        exact g_iret hx hr (dq tX10_wereAtIn 23 rfl) ⟨by omega, by omega⟩ rfl
      · refine g_iload (n := 14) hx 0 (dq tX10_wereAtIn 7 rfl) rfl rfl ?_
        refine g_aload_n (n := 15) hx 2 (dq tX10_wereAtIn 8 rfl) rfl rfl ?_
        refine g_getR (n := 18) hx glX10_9 (sX10_1 (by decide)) (dq tX10_wereAtIn 9 rfl) rfl ?_
        refine g_bipush (n := 20) hx (dq tX10_wereAtIn 10 rfl) rfl (by decide) ?_
        refine g_ialdX (n := 21) (q := 14) hx (aX10_1 (b := 229) (by decide)) (dq tX10_wereAtIn 11 rfl) rfl (by decide) (by decide) (by decide) rfl (fun h_12l h_12u => ?_)
        have h_12l : 0 ≤ M (229 + 1) 14 := h_12l
        have h_12u : M (229 + 1) 14 ≤ 30 := h_12u
        refine g_icmp_gt (n := 24) (t := 42) hx (dq tX10_wereAtIn 12 rfl) (by decide) rfl ⟨by omega, by omega⟩ (zrI h_12l h_12u (by decide) (by decide)) (fun c_13 => ?_) (fun c_13 => ?_)
        · refine g_iload (n := 44) hx 1 (dq tX10_wereAtIn 22 rfl) rfl rfl ?_
          exact g_iret hx hr (dq tX10_wereAtIn 23 rfl) ⟨by omega, by omega⟩ rfl
        · refine g_iload (n := 26) hx 1 (dq tX10_wereAtIn 13 rfl) rfl rfl ?_
          refine g_aload_n (n := 27) hx 2 (dq tX10_wereAtIn 14 rfl) rfl rfl ?_
          refine g_iload_n (n := 28) hx 3 (dq tX10_wereAtIn 15 rfl) rfl rfl ?_
          refine g_iload (n := 30) hx 0 (dq tX10_wereAtIn 16 rfl) rfl rfl ?_
          refine g_callVi (n := 33) (As := [vI l, vI i_1]) (rest := [vI i_2]) hx (ctX10_atAgo Γ M l (by omega) (by omega) i_1 (by omega) (by omega)) mlX10_609 (obX10 (by decide)) (dq tX10_wereAtIn 17 rfl) rfl (Nat.le_of_ble_eq_true rfl) (Nat.le_of_ble_eq_true rfl) (Nat.le_of_ble_eq_true rfl) rfl (fun z_14 M_15 h_16 p_17 => ?_)
          obtain rfl := p_17
          refine g_ior (n := 34) hx (dq tX10_wereAtIn 18 rfl) rfl (fun z_19 h_20 h_21 => ?_)
          clear h_21
          refine g_istore (n := 36) (lv' := [(4, vI z_19), (5, vI i_1), (0, aR Γ 229), (1, vI l), (2, vI from_), (3, vI to_)]) hx (dq tX10_wereAtIn 19 rfl) (by decide) rfl rfl ?_
          refine g_iinc (n := 39) (lv' := [(5, vI (i_1 + 1)), (4, vI z_19), (0, aR Γ 229), (1, vI l), (2, vI from_), (3, vI to_)]) hx 1 (dq tX10_wereAtIn 20 rfl) rfl (by decide) rfl rfl ?_
          refine g_goto (n := 6) hx (dq tX10_wereAtIn 21 rfl) (by decide) ?_
          exact ih_4 _ (by omega) (i_1 + 1) z_19 (by omega) (by omega) (by omega) (by omega) rfl
  exact L_3 _ to_ 0 (by omega) (by omega) (by omega) (by omega) rfl

abbrev qctX10_wereAt (M : zM) (l : Int) (from_ : Int) (to_ : Int) (z : Int) (M' : zM) : Prop := M = M'
set_option maxHeartbeats 4000000 in
set_option maxRecDepth 100000 in
theorem ctX10_wereAt (Γ : Gam) (M : zM) (l : Int) (hll : (-2147483648) ≤ l) (hlu : l ≤ 2147483647) (from_ : Int) (hfrom_l : (-2147483648) ≤ from_) (hfrom_u : from_ ≤ 2147483647) (to_ : Int) (hto_l : (-2147483648) ≤ to_) (hto_u : to_ ≤ 2147483647)  : CtI Γ yX10_wereAt cX10_wereAt 4 (some .int) 2 50 [aR Γ 229, vI l, vI from_, vI to_] M (qctX10_wereAt M l from_ to_) := by
  refine met_i (by decide) (Nat.le_of_ble_eq_true rfl) (fun x hx hr => ?_)
  show G Γ x 4 (QI Γ x (qctX10_wereAt M l from_ to_)) M 0 [(0, aR Γ 229), (1, vI l), (2, vI from_), (3, vI to_)] []
  refine g_aload_n (n := 1) hx 0 (dq tX10_wereAt 0 rfl) rfl rfl ?_
  refine g_iload_n (n := 2) hx 1 (dq tX10_wereAt 1 rfl) rfl rfl ?_
  refine g_callVi (n := 5) (As := [vI l]) (rest := []) hx (ctX10_isLog Γ M l (by omega) (by omega)) mlX10_483 (obX10 (by decide)) (dq tX10_wereAt 2 rfl) rfl (Nat.le_of_ble_eq_true rfl) (Nat.le_of_ble_eq_true rfl) (Nat.le_of_ble_eq_true rfl) rfl (fun z_1 M_2 h_3 p_4 => ?_)
  obtain ⟨rfl, b_6⟩ := p_4
  refine g_if_eq (n := 8) (t := 41) hx (dq tX10_wereAt 3 rfl) (by decide) rfl h_3 (fun c_10 => ?_) (fun c_10 => ?_)
  · clear b_6
    refine g_iconst (n := 42) hx (dq tX10_wereAt 24 rfl) rfl ?_
    exact g_iret hx hr (dq tX10_wereAt 25 rfl) ⟨by decide, by decide⟩ rfl
  · have b_6 := b_6.resolve_left c_10
    obtain ⟨-, h_7, h_8, h_9⟩ := b_6
    refine g_iload_n (n := 9) hx 3 (dq tX10_wereAt 4 rfl) rfl rfl ?_
    refine g_iconst (n := 10) hx (dq tX10_wereAt 5 rfl) rfl ?_
    refine g_icmp_lt (n := 13) (t := 41) hx (dq tX10_wereAt 6 rfl) (by decide) rfl (zrI hto_l hto_u (by decide) (by decide)) ⟨by decide, by decide⟩ (fun c_11 => ?_) (fun c_11 => ?_)
    · refine g_iconst (n := 42) hx (dq tX10_wereAt 24 rfl) rfl ?_
      exact g_iret hx hr (dq tX10_wereAt 25 rfl) ⟨by decide, by decide⟩ rfl
    · refine g_iload_n (n := 14) hx 2 (dq tX10_wereAt 7 rfl) rfl rfl ?_
      refine g_i2l (n := 15) hx (dq tX10_wereAt 8 rfl) rfl (zrI hfrom_l hfrom_u (by decide) (by decide)) ?_
      refine g_iload_n (n := 16) hx 3 (dq tX10_wereAt 9 rfl) rfl rfl ?_
      refine g_i2l (n := 17) hx (dq tX10_wereAt 10 rfl) rfl (zrI hto_l hto_u (by decide) (by decide)) ?_
      refine g_aload_n (n := 18) hx 0 (dq tX10_wereAt 11 rfl) rfl rfl ?_
      refine g_getR (n := 21) hx glX10_9 (sX10_1 (by decide)) (dq tX10_wereAt 12 rfl) rfl ?_
      refine g_bipush (n := 23) hx (dq tX10_wereAt 13 rfl) rfl (by decide) ?_
      refine g_ialdX (n := 24) (q := 14) hx (aX10_1 (b := 229) (by decide)) (dq tX10_wereAt 14 rfl) rfl (by decide) (by decide) (by decide) rfl (fun h_12l h_12u => ?_)
      have h_12l : 0 ≤ M (229 + 1) 14 := h_12l
      have h_12u : M (229 + 1) 14 ≤ 30 := h_12u
      refine g_i2l (n := 25) hx (dq tX10_wereAt 15 rfl) rfl (zrI h_12l h_12u (by decide) (by decide)) ?_
      refine g_callSi (n := 28) (As := [vL from_, vL to_, vL (M (229 + 1) 14)]) (rest := []) hx (ctX10_in Γ M from_ (by omega) (by omega) to_ (by omega) (by omega) (M (229 + 1) 14) (by omega) (by omega)) mlX10_191 (dq tX10_wereAt 16 rfl) rfl (Nat.le_of_ble_eq_true rfl) (Nat.le_of_ble_eq_true rfl) (Nat.le_of_ble_eq_true rfl) rfl (fun z_13 M_14 h_15 p_16 => ?_)
      obtain ⟨rfl, b_18, h_19⟩ := p_16
      refine g_if_eq (n := 31) (t := 41) hx (dq tX10_wereAt 17 rfl) (by decide) rfl h_15 (fun c_22 => ?_) (fun c_22 => ?_)
      · clear b_18
        refine g_iconst (n := 42) hx (dq tX10_wereAt 24 rfl) rfl ?_
        exact g_iret hx hr (dq tX10_wereAt 25 rfl) ⟨by decide, by decide⟩ rfl
      · have b_18 := b_18.resolve_left c_22
        obtain ⟨-, h_20, h_21⟩ := b_18
        refine g_aload_n (n := 32) hx 0 (dq tX10_wereAt 18 rfl) rfl rfl ?_
        refine g_iload_n (n := 33) hx 1 (dq tX10_wereAt 19 rfl) rfl rfl ?_
        refine g_iload_n (n := 34) hx 2 (dq tX10_wereAt 20 rfl) rfl rfl ?_
        refine g_iload_n (n := 35) hx 3 (dq tX10_wereAt 21 rfl) rfl rfl ?_
        refine g_callVi (n := 38) (As := [vI l, vI from_, vI to_]) (rest := []) hx (ctX10_wereAtIn Γ M l (by omega) (by omega) from_ (by omega) (by omega) to_ (by omega) (by omega)) mlX10_612 (obX10 (by decide)) (dq tX10_wereAt 22 rfl) rfl (Nat.le_of_ble_eq_true rfl) (Nat.le_of_ble_eq_true rfl) (Nat.le_of_ble_eq_true rfl) rfl (fun z_23 M_24 h_25 p_26 => ?_)
        obtain rfl := p_26
        refine g_goto (n := 42) hx (dq tX10_wereAt 23 rfl) (by decide) ?_
        exact g_iret hx hr (dq tX10_wereAt 25 rfl) h_25 rfl

abbrev qctX10_whoCould (M : zM) (l : Int) (early : Int) (late : Int) (z : Int) (M' : zM) : Prop := M = M'
set_option maxHeartbeats 4000000 in
set_option maxRecDepth 100000 in
theorem ctX10_whoCould (Γ : Gam) (M : zM) (l : Int) (hll : 0 ≤ l) (hlu : l ≤ 11) (early : Int) (hearlyl : (-2147483648) ≤ early) (hearlyu : early ≤ 2147483647) (late : Int) (hlatel : (-2147483648) ≤ late) (hlateu : late ≤ 2147483647)  : CtI Γ yX10_whoCould cX10_whoCould 6 (some .int) 2 50 [aR Γ 229, vI l, vI early, vI late] M (qctX10_whoCould M l early late) := by
  refine met_i (by decide) (Nat.le_of_ble_eq_true rfl) (fun x hx hr => ?_)
  show G Γ x 6 (QI Γ x (qctX10_whoCould M l early late)) M 0 [(0, aR Γ 229), (1, vI l), (2, vI early), (3, vI late)] []
  refine g_aload_n (n := 1) hx 0 (dq tX10_whoCould 0 rfl) rfl rfl ?_
  refine g_getR (n := 4) hx glX10_9 (sX10_1 (by decide)) (dq tX10_whoCould 1 rfl) rfl ?_
  refine g_bipush (n := 6) hx (dq tX10_whoCould 2 rfl) rfl (by decide) ?_
  refine g_ialdX (n := 7) (q := 7) hx (aX10_1 (b := 229) (by decide)) (dq tX10_whoCould 3 rfl) rfl (by decide) (by decide) (by decide) rfl (fun h_1l h_1u => ?_)
  have h_1l : 0 ≤ M (229 + 1) 7 := h_1l
  have h_1u : M (229 + 1) 7 ≤ 10100 := h_1u
  refine g_iload_n (n := 8) hx 2 (dq tX10_whoCould 4 rfl) rfl rfl ?_
  refine g_isub (n := 9) hx (dq tX10_whoCould 5 rfl) rfl ?_
  refine g_any (fun z_2 h_3 => ?_)
  refine g_istore (n := 11) (lv' := [(4, vI z_2), (0, aR Γ 229), (1, vI l), (2, vI early), (3, vI late)]) hx (dq tX10_whoCould 6 rfl) (by decide) rfl rfl ?_
  refine g_aload_n (n := 12) hx 1 (dq tX10_whoCould 7 rfl) rfl rfl ?_
  refine g_getR (n := 15) hx glX10_9 (sX10_1 (by decide)) (dq tX10_whoCould 8 rfl) rfl ?_
  refine g_bipush (n := 17) hx (dq tX10_whoCould 9 rfl) rfl (by decide) ?_
  refine g_ialdX (n := 18) (q := 7) hx (aX10_1 (b := 229) (by decide)) (dq tX10_whoCould 10 rfl) rfl (by decide) (by decide) (by decide) rfl (fun h_4l h_4u => ?_)
  have h_4l : 0 ≤ M (229 + 1) 7 := h_4l
  have h_4u : M (229 + 1) 7 ≤ 10100 := h_4u
  refine g_iload_n (n := 19) hx 4 (dq tX10_whoCould 11 rfl) rfl rfl ?_
  refine g_isub (n := 20) hx (dq tX10_whoCould 12 rfl) rfl ?_
  refine g_iconst (n := 21) hx (dq tX10_whoCould 13 rfl) rfl ?_
  refine g_iadd (n := 22) hx (dq tX10_whoCould 14 rfl) rfl ?_
  refine g_any (fun z_5 h_6 => ?_)
  refine g_istore (n := 24) (lv' := [(5, vI z_5), (4, vI z_2), (0, aR Γ 229), (1, vI l), (2, vI early), (3, vI late)]) hx (dq tX10_whoCould 15 rfl) (by decide) rfl rfl ?_
  refine g_iload (n := 26) hx 0 (dq tX10_whoCould 16 rfl) rfl rfl ?_
  refine g_iconst (n := 27) hx (dq tX10_whoCould 17 rfl) rfl ?_
  refine g_icmp_ge (n := 30) (t := 41) hx (dq tX10_whoCould 18 rfl) (by decide) rfl h_6 ⟨by decide, by decide⟩ (fun c_7 => ?_) (fun c_7 => ?_)
  · refine g_aload_n (n := 42) hx 2 (dq tX10_whoCould 25 rfl) rfl rfl ?_
    refine g_iload_n (n := 43) hx 3 (dq tX10_whoCould 26 rfl) rfl rfl ?_
    refine g_iload (n := 45) hx 1 (dq tX10_whoCould 27 rfl) rfl rfl ?_
    refine g_iload (n := 47) hx 0 (dq tX10_whoCould 28 rfl) rfl rfl ?_
    refine g_callVi (n := 50) (As := [vI l, vI z_2, vI z_5]) (rest := []) hx (ctX10_wereAtIn Γ M l (by omega) (by omega) z_2 (by omega) (by omega) z_5 (by omega) (by omega)) mlX10_612 (obX10 (by decide)) (dq tX10_whoCould 29 rfl) rfl (Nat.le_of_ble_eq_true rfl) (Nat.le_of_ble_eq_true rfl) (Nat.le_of_ble_eq_true rfl) rfl (fun z_8 M_9 h_10 p_11 => ?_)
    obtain rfl := p_11
    exact g_iret hx hr (dq tX10_whoCould 30 rfl) h_10 rfl
  · refine g_aload_n (n := 31) hx 2 (dq tX10_whoCould 19 rfl) rfl rfl ?_
    refine g_iload_n (n := 32) hx 3 (dq tX10_whoCould 20 rfl) rfl rfl ?_
    refine g_iload (n := 34) hx 1 (dq tX10_whoCould 21 rfl) rfl rfl ?_
    refine g_iconst (n := 35) hx (dq tX10_whoCould 22 rfl) rfl ?_
    refine g_callVi (n := 38) (As := [vI l, vI z_2, vI 1]) (rest := []) hx (ctX10_wereAtIn Γ M l (by omega) (by omega) z_2 (by omega) (by omega) 1 (by decide) (by decide)) mlX10_612 (obX10 (by decide)) (dq tX10_whoCould 23 rfl) rfl (Nat.le_of_ble_eq_true rfl) (Nat.le_of_ble_eq_true rfl) (Nat.le_of_ble_eq_true rfl) rfl (fun z_13 M_14 h_15 p_16 => ?_)
    obtain rfl := p_16
    refine g_goto (n := 50) hx (dq tX10_whoCould 24 rfl) (by decide) ?_
    exact g_iret hx hr (dq tX10_whoCould 30 rfl) h_15 rfl

abbrev qctX10_parted (M : zM) (l : Int) (at_ : Int) (what : Int) (z : Int) (M' : zM) : Prop := M = M'
set_option maxHeartbeats 4000000 in
set_option maxRecDepth 100000 in
theorem ctX10_parted (Γ : Gam) (M : zM) (l : Int) (hll : (-2147483648) ≤ l) (hlu : l ≤ 2147483647) (at_ : Int) (hat_l : (-2147483648) ≤ at_) (hat_u : at_ ≤ 2147483647) (what : Int) (hwhatl : (-2147483648) ≤ what) (hwhatu : what ≤ 2147483647)  : CtI Γ yX10_parted cX10_parted 6 (some .int) 3 75 [aR Γ 229, vI l, vI at_, vI what] M (qctX10_parted M l at_ what) := by
  refine met_i (by decide) (Nat.le_of_ble_eq_true rfl) (fun x hx hr => ?_)
  show G Γ x 6 (QI Γ x (qctX10_parted M l at_ what)) M 0 [(0, aR Γ 229), (1, vI l), (2, vI at_), (3, vI what)] []
  refine g_aload_n (n := 1) hx 0 (dq tX10_parted 0 rfl) rfl rfl ?_
  refine g_iload_n (n := 2) hx 1 (dq tX10_parted 1 rfl) rfl rfl ?_
  refine g_callVi (n := 5) (As := [vI l]) (rest := []) hx (ctX10_isLog Γ M l (by omega) (by omega)) mlX10_483 (obX10 (by decide)) (dq tX10_parted 2 rfl) rfl (Nat.le_of_ble_eq_true rfl) (Nat.le_of_ble_eq_true rfl) (Nat.le_of_ble_eq_true rfl) rfl (fun z_1 M_2 h_3 p_4 => ?_)
  obtain ⟨rfl, b_6⟩ := p_4
  refine g_if_eq (n := 8) (t := 32) hx (dq tX10_parted 3 rfl) (by decide) rfl h_3 (fun c_10 => ?_) (fun c_10 => ?_)
  · clear b_6
    refine g_iconst (n := 33) hx (dq tX10_parted 16 rfl) rfl ?_
    exact g_iret hx hr (dq tX10_parted 17 rfl) ⟨by decide, by decide⟩ rfl
  · have b_6 := b_6.resolve_left c_10
    obtain ⟨-, h_7, h_8, h_9⟩ := b_6
    refine g_iload_n (n := 9) hx 2 (dq tX10_parted 4 rfl) rfl rfl ?_
    refine g_i2l (n := 10) hx (dq tX10_parted 5 rfl) rfl (zrI hat_l hat_u (by decide) (by decide)) ?_
    refine g_lconst (n := 11) (z := 0) hx (dq tX10_parted 6 rfl) rfl (by decide) ?_
    refine g_ldc2 (n := 14) (z := 5) hx wd_1850 (by decide) (dq tX10_parted 7 rfl) rfl ?_
    refine g_callSi (n := 17) (As := [vL at_, vL 0, vL 5]) (rest := []) hx (ctX10_in Γ M at_ (by omega) (by omega) 0 (by omega) (by omega) 5 (by omega) (by omega)) mlX10_191 (dq tX10_parted 8 rfl) rfl (Nat.le_of_ble_eq_true rfl) (Nat.le_of_ble_eq_true rfl) (Nat.le_of_ble_eq_true rfl) rfl (fun z_11 M_12 h_13 p_14 => ?_)
    obtain ⟨rfl, b_16, h_17⟩ := p_14
    refine g_if_eq (n := 20) (t := 32) hx (dq tX10_parted 9 rfl) (by decide) rfl h_13 (fun c_20 => ?_) (fun c_20 => ?_)
    · clear b_16
      refine g_iconst (n := 33) hx (dq tX10_parted 16 rfl) rfl ?_
      exact g_iret hx hr (dq tX10_parted 17 rfl) ⟨by decide, by decide⟩ rfl
    · have b_16 := b_16.resolve_left c_20
      obtain ⟨-, h_18, h_19⟩ := b_16
      refine g_iload_n (n := 21) hx 3 (dq tX10_parted 10 rfl) rfl rfl ?_
      refine g_i2l (n := 22) hx (dq tX10_parted 11 rfl) rfl (zrI hwhatl hwhatu (by decide) (by decide)) ?_
      refine g_lconst (n := 23) (z := 0) hx (dq tX10_parted 12 rfl) rfl (by decide) ?_
      refine g_ldc2 (n := 26) (z := 3) hx wd_1575 (by decide) (dq tX10_parted 13 rfl) rfl ?_
      refine g_callSi (n := 29) (As := [vL what, vL 0, vL 3]) (rest := []) hx (ctX10_in Γ M what (by omega) (by omega) 0 (by omega) (by omega) 3 (by omega) (by omega)) mlX10_191 (dq tX10_parted 14 rfl) rfl (Nat.le_of_ble_eq_true rfl) (Nat.le_of_ble_eq_true rfl) (Nat.le_of_ble_eq_true rfl) rfl (fun z_21 M_22 h_23 p_24 => ?_)
      obtain ⟨rfl, b_26, h_27⟩ := p_24
      refine g_if_ne (n := 32) (t := 34) hx (dq tX10_parted 15 rfl) (by decide) rfl h_23 (fun c_30 => ?_) (fun c_30 => ?_)
      · have b_26 := b_26.resolve_left c_30
        obtain ⟨-, h_28, h_29⟩ := b_26
        refine g_iconst (n := 35) hx (dq tX10_parted 18 rfl) rfl ?_
        refine g_istore (n := 37) (lv' := [(4, vI (-1)), (0, aR Γ 229), (1, vI l), (2, vI at_), (3, vI what)]) hx (dq tX10_parted 19 rfl) (by decide) rfl rfl ?_
        refine g_iconst (n := 38) hx (dq tX10_parted 20 rfl) rfl ?_
        refine g_istore (n := 40) (lv' := [(5, vI 0), (4, vI (-1)), (0, aR Γ 229), (1, vI l), (2, vI at_), (3, vI what)]) hx (dq tX10_parted 21 rfl) (by decide) rfl rfl ?_
        have L_33 : ∀ (n_ : Nat) (i_31 : Int) (i_32 : Int), (0 ≤ i_31) → (i_31 ≤ 20) → ((-1) ≤ i_32) → (i_32 ≤ 19) → ((20 - i_31).toNat = n_) → G Γ x 6 (QI Γ x (qctX10_parted M l at_ what)) M 40 [(5, vI i_31), (4, vI i_32), (0, aR Γ 229), (1, vI l), (2, vI at_), (3, vI what)] [] := by
          intro n_
          induction n_ using Nat.strongRecOn with
          | _ n_ ih_34 =>
            intro i_31 i_32 h_37 h_38 h_39 h_40 hm_36
            refine g_iload (n := 42) hx 0 (dq tX10_parted 22 rfl) rfl rfl ?_
            refine g_aload_n (n := 43) hx 2 (dq tX10_parted 23 rfl) rfl rfl ?_
            refine g_getR (n := 46) hx glX10_9 (sX10_1 (by decide)) (dq tX10_parted 24 rfl) rfl ?_
            refine g_bipush (n := 48) hx (dq tX10_parted 25 rfl) rfl (by decide) ?_
            refine g_ialdX (n := 49) (q := 11) hx (aX10_1 (b := 229) (by decide)) (dq tX10_parted 26 rfl) rfl (by decide) (by decide) (by decide) rfl (fun h_41l h_41u => ?_)
            have h_41l : 0 ≤ M (229 + 1) 11 := h_41l
            have h_41u : M (229 + 1) 11 ≤ 20 := h_41u
            refine g_icmp_ge (n := 52) (t := 166) hx (dq tX10_parted 27 rfl) (by decide) rfl ⟨by omega, by omega⟩ (zrI h_41l h_41u (by decide) (by decide)) (fun c_42 => ?_) (fun c_42 => ?_)
            · refine g_bipush (n := 168) hx (dq tX10_parted 88 rfl) rfl (by decide) ?_
              exact g_iret hx hr (dq tX10_parted 89 rfl) ⟨by decide, by decide⟩ rfl
            · refine g_aload_n (n := 53) hx 2 (dq tX10_parted 28 rfl) rfl rfl ?_
              refine g_getR (n := 56) hx glX10_67 (sX10_20 (by decide)) (dq tX10_parted 29 rfl) rfl ?_
              refine g_iload (n := 58) hx 0 (dq tX10_parted 30 rfl) rfl rfl ?_
              refine g_iald (n := 59) (q := i_31.toNat) hx (aX10_20 (b := 229) (by decide)) (dq tX10_parted 31 rfl) rfl (by omega) (by omega) (by omega) rfl (fun h_43l h_43u => ?_)
              refine g_iload_n (n := 60) hx 3 (dq tX10_parted 32 rfl) rfl rfl ?_
              refine g_icmp_ne (n := 63) (t := 160) hx (dq tX10_parted 33 rfl) (by decide) rfl (zrI h_43l h_43u (by decide) (by decide)) (zrI hll hlu (by decide) (by decide)) (fun c_44 => ?_) (fun c_44 => ?_)
              · refine g_iinc (n := 163) (lv' := [(5, vI (i_31 + 1)), (4, vI i_32), (0, aR Γ 229), (1, vI l), (2, vI at_), (3, vI what)]) hx 0 (dq tX10_parted 86 rfl) rfl (by decide) rfl rfl ?_
                refine g_goto (n := 40) hx (dq tX10_parted 87 rfl) (by decide) ?_
                exact ih_34 _ (by omega) (i_31 + 1) i_32 (by omega) (by omega) (by omega) (by omega) rfl
              · refine g_aload_n (n := 64) hx 2 (dq tX10_parted 34 rfl) rfl rfl ?_
                refine g_getR (n := 67) hx glX10_70 (sX10_21 (by decide)) (dq tX10_parted 35 rfl) rfl ?_
                refine g_iload (n := 69) hx 0 (dq tX10_parted 36 rfl) rfl rfl ?_
                refine g_iald (n := 70) (q := i_31.toNat) hx (aX10_21 (b := 229) (by decide)) (dq tX10_parted 37 rfl) rfl (by omega) (by omega) (by omega) rfl (fun h_45l h_45u => ?_)
                refine g_iload_n (n := 71) hx 4 (dq tX10_parted 38 rfl) rfl rfl ?_
                refine g_icmp_ne (n := 74) (t := 160) hx (dq tX10_parted 39 rfl) (by decide) rfl (zrI h_45l h_45u (by decide) (by decide)) (zrI hat_l hat_u (by decide) (by decide)) (fun c_46 => ?_) (fun c_46 => ?_)
                · refine g_iinc (n := 163) (lv' := [(5, vI (i_31 + 1)), (4, vI i_32), (0, aR Γ 229), (1, vI l), (2, vI at_), (3, vI what)]) hx 0 (dq tX10_parted 86 rfl) rfl (by decide) rfl rfl ?_
                  refine g_goto (n := 40) hx (dq tX10_parted 87 rfl) (by decide) ?_
                  exact ih_34 _ (by omega) (i_31 + 1) i_32 (by omega) (by omega) (by omega) (by omega) rfl
                · refine g_iload (n := 76) hx 1 (dq tX10_parted 40 rfl) rfl rfl ?_
                  refine g_iconst (n := 77) hx (dq tX10_parted 41 rfl) rfl ?_
                  refine g_icmp_eq (n := 80) (t := 156) hx (dq tX10_parted 42 rfl) (by decide) rfl ⟨by omega, by omega⟩ ⟨by decide, by decide⟩ (fun c_47 => ?_) (fun c_47 => ?_)
                  · refine g_iload (n := 158) hx 0 (dq tX10_parted 84 rfl) rfl rfl ?_
                    refine g_istore (n := 160) (lv' := [(4, vI i_31), (5, vI i_31), (0, aR Γ 229), (1, vI l), (2, vI at_), (3, vI what)]) hx (dq tX10_parted 85 rfl) (by decide) rfl rfl ?_
                    refine g_iinc (n := 163) (lv' := [(5, vI (i_31 + 1)), (4, vI i_31), (0, aR Γ 229), (1, vI l), (2, vI at_), (3, vI what)]) hx 1 (dq tX10_parted 86 rfl) rfl (by decide) rfl rfl ?_
                    refine g_goto (n := 40) hx (dq tX10_parted 87 rfl) (by decide) ?_
                    exact ih_34 _ (by omega) (i_31 + 1) i_31 (by omega) (by omega) (by omega) (by omega) rfl
                  · refine g_aload_n (n := 81) hx 2 (dq tX10_parted 43 rfl) rfl rfl ?_
                    refine g_getR (n := 84) hx glX10_73 (sX10_22 (by decide)) (dq tX10_parted 44 rfl) rfl ?_
                    refine g_iload (n := 86) hx 0 (dq tX10_parted 45 rfl) rfl rfl ?_
                    refine g_iald (n := 87) (q := i_31.toNat) hx (aX10_22 (b := 229) (by decide)) (dq tX10_parted 46 rfl) rfl (by omega) (by omega) (by omega) rfl (fun h_48l h_48u => ?_)
                    refine g_aload_n (n := 88) hx 2 (dq tX10_parted 47 rfl) rfl rfl ?_
                    refine g_getR (n := 91) hx glX10_73 (sX10_22 (by decide)) (dq tX10_parted 48 rfl) rfl ?_
                    refine g_iload (n := 93) hx 1 (dq tX10_parted 49 rfl) rfl rfl ?_
                    refine g_iald (n := 94) (q := i_32.toNat) hx (aX10_22 (b := 229) (by decide)) (dq tX10_parted 50 rfl) rfl (by omega) (by omega) (by omega) rfl (fun h_49l h_49u => ?_)
                    refine g_icmp_eq (n := 97) (t := 156) hx (dq tX10_parted 51 rfl) (by decide) rfl (zrI h_48l h_48u (by decide) (by decide)) (zrI h_49l h_49u (by decide) (by decide)) (fun c_50 => ?_) (fun c_50 => ?_)
                    · refine g_iload (n := 158) hx 0 (dq tX10_parted 84 rfl) rfl rfl ?_
                      refine g_istore (n := 160) (lv' := [(4, vI i_31), (5, vI i_31), (0, aR Γ 229), (1, vI l), (2, vI at_), (3, vI what)]) hx (dq tX10_parted 85 rfl) (by decide) rfl rfl ?_
                      refine g_iinc (n := 163) (lv' := [(5, vI (i_31 + 1)), (4, vI i_31), (0, aR Γ 229), (1, vI l), (2, vI at_), (3, vI what)]) hx 1 (dq tX10_parted 86 rfl) rfl (by decide) rfl rfl ?_
                      refine g_goto (n := 40) hx (dq tX10_parted 87 rfl) (by decide) ?_
                      exact ih_34 _ (by omega) (i_31 + 1) i_31 (by omega) (by omega) (by omega) (by omega) rfl
                    · refine g_iload_n (n := 98) hx 5 (dq tX10_parted 52 rfl) rfl rfl ?_
                      refine g_if_ne (n := 101) (t := 106) hx (dq tX10_parted 53 rfl) (by decide) rfl (zrI hwhatl hwhatu (by decide) (by decide)) (fun c_51 => ?_) (fun c_51 => ?_)
                      · refine g_iload_n (n := 107) hx 5 (dq tX10_parted 56 rfl) rfl rfl ?_
                        refine g_iconst (n := 108) hx (dq tX10_parted 57 rfl) rfl ?_
                        refine g_icmp_ne (n := 111) (t := 121) hx (dq tX10_parted 58 rfl) (by decide) rfl (zrI hwhatl hwhatu (by decide) (by decide)) ⟨by decide, by decide⟩ (fun c_52 => ?_) (fun c_52 => ?_)
                        · refine g_iload_n (n := 122) hx 5 (dq tX10_parted 64 rfl) rfl rfl ?_
                          refine g_iconst (n := 123) hx (dq tX10_parted 65 rfl) rfl ?_
                          refine g_icmp_ne (n := 126) (t := 136) hx (dq tX10_parted 66 rfl) (by decide) rfl (zrI hwhatl hwhatu (by decide) (by decide)) ⟨by decide, by decide⟩ (fun c_53 => ?_) (fun c_53 => ?_)
                          · refine g_aload_n (n := 137) hx 2 (dq tX10_parted 72 rfl) rfl rfl ?_
                            refine g_iload_n (n := 138) hx 3 (dq tX10_parted 73 rfl) rfl rfl ?_
                            refine g_aload_n (n := 139) hx 2 (dq tX10_parted 74 rfl) rfl rfl ?_
                            refine g_getR (n := 142) hx glX10_76 (sX10_23 (by decide)) (dq tX10_parted 75 rfl) rfl ?_
                            refine g_iload (n := 144) hx 1 (dq tX10_parted 76 rfl) rfl rfl ?_
                            refine g_iald (n := 145) (q := i_32.toNat) hx (aX10_23 (b := 229) (by decide)) (dq tX10_parted 77 rfl) rfl (by omega) (by omega) (by omega) rfl (fun h_54l h_54u => ?_)
                            refine g_aload_n (n := 146) hx 2 (dq tX10_parted 78 rfl) rfl rfl ?_
                            refine g_getR (n := 149) hx glX10_76 (sX10_23 (by decide)) (dq tX10_parted 79 rfl) rfl ?_
                            refine g_iload (n := 151) hx 0 (dq tX10_parted 80 rfl) rfl rfl ?_
                            refine g_iald (n := 152) (q := i_31.toNat) hx (aX10_23 (b := 229) (by decide)) (dq tX10_parted 81 rfl) rfl (by omega) (by omega) (by omega) rfl (fun h_55l h_55u => ?_)
                            refine g_callVi (n := 155) (As := [vI l, vI (M (229 + 23) i_32.toNat), vI (M (229 + 23) i_31.toNat)]) (rest := []) hx (ctX10_whoCould Γ M l (by omega) (by omega) (M (229 + 23) i_32.toNat) (by omega) (by omega) (M (229 + 23) i_31.toNat) (by omega) (by omega)) mlX10_619 (obX10 (by decide)) (dq tX10_parted 82 rfl) rfl (Nat.le_of_ble_eq_true rfl) (Nat.le_of_ble_eq_true rfl) (Nat.le_of_ble_eq_true rfl) rfl (fun z_56 M_57 h_58 p_59 => ?_)
                            obtain rfl := p_59
                            exact g_iret hx hr (dq tX10_parted 83 rfl) h_58 rfl
                          · refine g_aload_n (n := 127) hx 2 (dq tX10_parted 67 rfl) rfl rfl ?_
                            refine g_getR (n := 130) hx glX10_76 (sX10_23 (by decide)) (dq tX10_parted 68 rfl) rfl ?_
                            refine g_iload (n := 132) hx 0 (dq tX10_parted 69 rfl) rfl rfl ?_
                            refine g_iald (n := 133) (q := i_31.toNat) hx (aX10_23 (b := 229) (by decide)) (dq tX10_parted 70 rfl) rfl (by omega) (by omega) (by omega) rfl (fun h_61l h_61u => ?_)
                            refine g_goto (n := 155) hx (dq tX10_parted 71 rfl) (by decide) ?_
                            exact g_iret hx hr (dq tX10_parted 83 rfl) (zrI h_61l h_61u (by decide) (by decide)) rfl
                        · refine g_aload_n (n := 112) hx 2 (dq tX10_parted 59 rfl) rfl rfl ?_
                          refine g_getR (n := 115) hx glX10_76 (sX10_23 (by decide)) (dq tX10_parted 60 rfl) rfl ?_
                          refine g_iload (n := 117) hx 1 (dq tX10_parted 61 rfl) rfl rfl ?_
                          refine g_iald (n := 118) (q := i_32.toNat) hx (aX10_23 (b := 229) (by decide)) (dq tX10_parted 62 rfl) rfl (by omega) (by omega) (by omega) rfl (fun h_62l h_62u => ?_)
                          refine g_goto (n := 155) hx (dq tX10_parted 63 rfl) (by decide) ?_
                          exact g_iret hx hr (dq tX10_parted 83 rfl) (zrI h_62l h_62u (by decide) (by decide)) rfl
                      · refine g_iload (n := 103) hx 0 (dq tX10_parted 54 rfl) rfl rfl ?_
                        refine g_goto (n := 155) hx (dq tX10_parted 55 rfl) (by decide) ?_
                        exact g_iret hx hr (dq tX10_parted 83 rfl) ⟨by omega, by omega⟩ rfl
        exact L_33 _ 0 (-1) (by omega) (by omega) (by omega) (by omega) rfl
      · clear b_26
        refine g_iconst (n := 33) hx (dq tX10_parted 16 rfl) rfl ?_
        exact g_iret hx hr (dq tX10_parted 17 rfl) ⟨by decide, by decide⟩ rfl

abbrev qctX10_owes (M : zM) (p : Int) (q : Int) (z : Int) (M' : zM) : Prop := M = M'
set_option maxHeartbeats 4000000 in
set_option maxRecDepth 100000 in
theorem ctX10_owes (Γ : Gam) (M : zM) (p : Int) (hpl : (-2147483648) ≤ p) (hpu : p ≤ 2147483647) (q : Int) (hql : (-2147483648) ≤ q) (hqu : q ≤ 2147483647)  : CtI Γ yX10_owes cX10_owes 3 (some .int) 2 46 [aR Γ 229, vI p, vI q] M (qctX10_owes M p q) := by
  refine met_i (by decide) (Nat.le_of_ble_eq_true rfl) (fun x hx hr => ?_)
  show G Γ x 3 (QI Γ x (qctX10_owes M p q)) M 0 [(0, aR Γ 229), (1, vI p), (2, vI q)] []
  refine g_aload_n (n := 1) hx 0 (dq tX10_owes 0 rfl) rfl rfl ?_
  refine g_iload_n (n := 2) hx 1 (dq tX10_owes 1 rfl) rfl rfl ?_
  refine g_callVi (n := 5) (As := [vI p]) (rest := []) hx (ctX10_isVillage Γ M p (by omega) (by omega)) mlX10_419 (obX10 (by decide)) (dq tX10_owes 2 rfl) rfl (Nat.le_of_ble_eq_true rfl) (Nat.le_of_ble_eq_true rfl) (Nat.le_of_ble_eq_true rfl) rfl (fun z_1 M_2 h_3 p_4 => ?_)
  obtain ⟨rfl, b_6⟩ := p_4
  refine g_if_eq (n := 8) (t := 35) hx (dq tX10_owes 3 rfl) (by decide) rfl h_3 (fun c_10 => ?_) (fun c_10 => ?_)
  · clear b_6
    refine g_iconst (n := 36) hx (dq tX10_owes 20 rfl) rfl ?_
    exact g_iret hx hr (dq tX10_owes 21 rfl) ⟨by decide, by decide⟩ rfl
  · have b_6 := b_6.resolve_left c_10
    obtain ⟨-, h_7, h_8, h_9⟩ := b_6
    refine g_aload_n (n := 9) hx 0 (dq tX10_owes 4 rfl) rfl rfl ?_
    refine g_iload_n (n := 10) hx 2 (dq tX10_owes 5 rfl) rfl rfl ?_
    refine g_callVi (n := 13) (As := [vI q]) (rest := []) hx (ctX10_isVillage Γ M q (by omega) (by omega)) mlX10_419 (obX10 (by decide)) (dq tX10_owes 6 rfl) rfl (Nat.le_of_ble_eq_true rfl) (Nat.le_of_ble_eq_true rfl) (Nat.le_of_ble_eq_true rfl) rfl (fun z_11 M_12 h_13 p_14 => ?_)
    obtain ⟨rfl, b_16⟩ := p_14
    refine g_if_eq (n := 16) (t := 35) hx (dq tX10_owes 7 rfl) (by decide) rfl h_13 (fun c_20 => ?_) (fun c_20 => ?_)
    · clear b_16
      refine g_iconst (n := 36) hx (dq tX10_owes 20 rfl) rfl ?_
      exact g_iret hx hr (dq tX10_owes 21 rfl) ⟨by decide, by decide⟩ rfl
    · have b_16 := b_16.resolve_left c_20
      obtain ⟨-, h_17, h_18, h_19⟩ := b_16
      refine g_iload_n (n := 17) hx 1 (dq tX10_owes 8 rfl) rfl rfl ?_
      refine g_iload_n (n := 18) hx 2 (dq tX10_owes 9 rfl) rfl rfl ?_
      refine g_icmp_eq (n := 21) (t := 35) hx (dq tX10_owes 10 rfl) (by decide) rfl (zrI hpl hpu (by decide) (by decide)) (zrI hql hqu (by decide) (by decide)) (fun c_21 => ?_) (fun c_21 => ?_)
      · refine g_iconst (n := 36) hx (dq tX10_owes 20 rfl) rfl ?_
        exact g_iret hx hr (dq tX10_owes 21 rfl) ⟨by decide, by decide⟩ rfl
      · refine g_aload_n (n := 22) hx 0 (dq tX10_owes 11 rfl) rfl rfl ?_
        refine g_getR (n := 25) hx glX10_31 (sX10_8 (by decide)) (dq tX10_owes 12 rfl) rfl ?_
        refine g_bipush (n := 27) hx (dq tX10_owes 13 rfl) rfl (by decide) ?_
        refine g_iload_n (n := 28) hx 1 (dq tX10_owes 14 rfl) rfl rfl ?_
        refine g_imul (n := 29) hx (dq tX10_owes 15 rfl) rfl ?_
        refine g_iload_n (n := 30) hx 2 (dq tX10_owes 16 rfl) rfl rfl ?_
        refine g_iadd (n := 31) hx (dq tX10_owes 17 rfl) rfl ?_
        refine g_iald (n := 32) (q := ((6 * p) + q).toNat) hx (aX10_8 (b := 229) (by decide)) (dq tX10_owes 18 rfl) rfl (by omega) (by omega) (by omega) rfl (fun h_22l h_22u => ?_)
        refine g_goto (n := 36) hx (dq tX10_owes 19 rfl) (by decide) ?_
        exact g_iret hx hr (dq tX10_owes 21 rfl) (zrI h_22l h_22u (by decide) (by decide)) rfl

abbrev qctX10_count (M : zM) (what : Int) (z : Int) (M' : zM) : Prop := M = M'
set_option maxHeartbeats 4000000 in
set_option maxRecDepth 100000 in
theorem ctX10_count (Γ : Gam) (M : zM) (what : Int) (hwhatl : (-2147483648) ≤ what) (hwhatu : what ≤ 2147483647)  : CtI Γ yX10_count cX10_count 2 (some .int) 2 49 [aR Γ 229, vI what] M (qctX10_count M what) := by
  refine met_i (by decide) (Nat.le_of_ble_eq_true rfl) (fun x hx hr => ?_)
  show G Γ x 2 (QI Γ x (qctX10_count M what)) M 0 [(0, aR Γ 229), (1, vI what)] []
  refine g_iload_n (n := 1) hx 1 (dq tX10_count 0 rfl) rfl rfl ?_
  by_cases c_1 : what = 0
  · refine g_swI (t := 96) hx (dq tX10_count 1 rfl) c_1 (by decide) (by decide) rfl (by decide) ?_
    refine g_aload_n (n := 97) hx 0 (dq tX10_count 2 rfl) rfl rfl ?_
    refine g_getR (n := 100) hx glX10_9 (sX10_1 (by decide)) (dq tX10_count 3 rfl) rfl ?_
    refine g_iconst (n := 101) hx (dq tX10_count 4 rfl) rfl ?_
    refine g_ialdX (n := 102) (q := 0) hx (aX10_1 (b := 229) (by decide)) (dq tX10_count 5 rfl) rfl (by decide) (by decide) (by decide) rfl (fun h_2l h_2u => ?_)
    have h_2l : 0 ≤ M (229 + 1) 0 := h_2l
    have h_2u : M (229 + 1) 0 ≤ 9 := h_2u
    exact g_iret hx hr (dq tX10_count 6 rfl) (zrI h_2l h_2u (by decide) (by decide)) rfl
  by_cases c_3 : what = 1
  · refine g_swI (t := 103) hx (dq tX10_count 1 rfl) c_3 (by decide) (by decide) rfl (by decide) ?_
    refine g_aload_n (n := 104) hx 0 (dq tX10_count 7 rfl) rfl rfl ?_
    refine g_getR (n := 107) hx glX10_9 (sX10_1 (by decide)) (dq tX10_count 8 rfl) rfl ?_
    refine g_iconst (n := 108) hx (dq tX10_count 9 rfl) rfl ?_
    refine g_ialdX (n := 109) (q := 1) hx (aX10_1 (b := 229) (by decide)) (dq tX10_count 10 rfl) rfl (by decide) (by decide) (by decide) rfl (fun h_4l h_4u => ?_)
    have h_4l : 0 ≤ M (229 + 1) 1 := h_4l
    have h_4u : M (229 + 1) 1 ≤ 6 := h_4u
    exact g_iret hx hr (dq tX10_count 11 rfl) (zrI h_4l h_4u (by decide) (by decide)) rfl
  by_cases c_5 : what = 2
  · refine g_swI (t := 110) hx (dq tX10_count 1 rfl) c_5 (by decide) (by decide) rfl (by decide) ?_
    refine g_aload_n (n := 111) hx 0 (dq tX10_count 12 rfl) rfl rfl ?_
    refine g_getR (n := 114) hx glX10_9 (sX10_1 (by decide)) (dq tX10_count 13 rfl) rfl ?_
    refine g_iconst (n := 115) hx (dq tX10_count 14 rfl) rfl ?_
    refine g_ialdX (n := 116) (q := 2) hx (aX10_1 (b := 229) (by decide)) (dq tX10_count 15 rfl) rfl (by decide) (by decide) (by decide) rfl (fun h_6l h_6u => ?_)
    have h_6l : 0 ≤ M (229 + 1) 2 := h_6l
    have h_6u : M (229 + 1) 2 ≤ 4 := h_6u
    exact g_iret hx hr (dq tX10_count 16 rfl) (zrI h_6l h_6u (by decide) (by decide)) rfl
  by_cases c_7 : what = 3
  · refine g_swI (t := 117) hx (dq tX10_count 1 rfl) c_7 (by decide) (by decide) rfl (by decide) ?_
    refine g_aload_n (n := 118) hx 0 (dq tX10_count 17 rfl) rfl rfl ?_
    refine g_getR (n := 121) hx glX10_9 (sX10_1 (by decide)) (dq tX10_count 18 rfl) rfl ?_
    refine g_iconst (n := 122) hx (dq tX10_count 19 rfl) rfl ?_
    refine g_ialdX (n := 123) (q := 3) hx (aX10_1 (b := 229) (by decide)) (dq tX10_count 20 rfl) rfl (by decide) (by decide) (by decide) rfl (fun h_8l h_8u => ?_)
    have h_8l : 0 ≤ M (229 + 1) 3 := h_8l
    have h_8u : M (229 + 1) 3 ≤ 12 := h_8u
    exact g_iret hx hr (dq tX10_count 21 rfl) (zrI h_8l h_8u (by decide) (by decide)) rfl
  by_cases c_9 : what = 4
  · refine g_swI (t := 124) hx (dq tX10_count 1 rfl) c_9 (by decide) (by decide) rfl (by decide) ?_
    refine g_aload_n (n := 125) hx 0 (dq tX10_count 22 rfl) rfl rfl ?_
    refine g_getI (n := 128) hx glX10_405 (sX10_41 (by decide)) (dq tX10_count 23 rfl) rfl (fun h_10l h_10u => ?_)
    exact g_iret hx hr (dq tX10_count 24 rfl) (zrI h_10l h_10u (by decide) (by decide)) rfl
  by_cases c_11 : what = 5
  · refine g_swI (t := 129) hx (dq tX10_count 1 rfl) c_11 (by decide) (by decide) rfl (by decide) ?_
    refine g_aload_n (n := 130) hx 0 (dq tX10_count 25 rfl) rfl rfl ?_
    refine g_getR (n := 133) hx glX10_9 (sX10_1 (by decide)) (dq tX10_count 26 rfl) rfl ?_
    refine g_bipush (n := 135) hx (dq tX10_count 27 rfl) rfl (by decide) ?_
    refine g_ialdX (n := 136) (q := 15) hx (aX10_1 (b := 229) (by decide)) (dq tX10_count 28 rfl) rfl (by decide) (by decide) (by decide) rfl (fun h_12l h_12u => ?_)
    have h_12l : (-1) ≤ M (229 + 1) 15 := h_12l
    have h_12u : M (229 + 1) 15 ≤ 5 := h_12u
    exact g_iret hx hr (dq tX10_count 29 rfl) (zrI h_12l h_12u (by decide) (by decide)) rfl
  by_cases c_13 : what = 6
  · refine g_swI (t := 137) hx (dq tX10_count 1 rfl) c_13 (by decide) (by decide) rfl (by decide) ?_
    refine g_aload_n (n := 138) hx 0 (dq tX10_count 30 rfl) rfl rfl ?_
    refine g_getR (n := 141) hx glX10_9 (sX10_1 (by decide)) (dq tX10_count 31 rfl) rfl ?_
    refine g_iconst (n := 142) hx (dq tX10_count 32 rfl) rfl ?_
    refine g_ialdX (n := 143) (q := 5) hx (aX10_1 (b := 229) (by decide)) (dq tX10_count 33 rfl) rfl (by decide) (by decide) (by decide) rfl (fun h_14l h_14u => ?_)
    have h_14l : 0 ≤ M (229 + 1) 5 := h_14l
    have h_14u : M (229 + 1) 5 ≤ 3 := h_14u
    exact g_iret hx hr (dq tX10_count 34 rfl) (zrI h_14l h_14u (by decide) (by decide)) rfl
  by_cases c_15 : what = 7
  · refine g_swI (t := 144) hx (dq tX10_count 1 rfl) c_15 (by decide) (by decide) rfl (by decide) ?_
    refine g_aload_n (n := 145) hx 0 (dq tX10_count 35 rfl) rfl rfl ?_
    refine g_getR (n := 148) hx glX10_9 (sX10_1 (by decide)) (dq tX10_count 36 rfl) rfl ?_
    refine g_bipush (n := 150) hx (dq tX10_count 37 rfl) rfl (by decide) ?_
    refine g_ialdX (n := 151) (q := 7) hx (aX10_1 (b := 229) (by decide)) (dq tX10_count 38 rfl) rfl (by decide) (by decide) (by decide) rfl (fun h_16l h_16u => ?_)
    have h_16l : 0 ≤ M (229 + 1) 7 := h_16l
    have h_16u : M (229 + 1) 7 ≤ 10100 := h_16u
    exact g_iret hx hr (dq tX10_count 39 rfl) (zrI h_16l h_16u (by decide) (by decide)) rfl
  by_cases c_17 : what = 8
  · refine g_swI (t := 152) hx (dq tX10_count 1 rfl) c_17 (by decide) (by decide) rfl (by decide) ?_
    refine g_aload_n (n := 153) hx 0 (dq tX10_count 40 rfl) rfl rfl ?_
    refine g_getR (n := 156) hx glX10_9 (sX10_1 (by decide)) (dq tX10_count 41 rfl) rfl ?_
    refine g_bipush (n := 158) hx (dq tX10_count 42 rfl) rfl (by decide) ?_
    refine g_ialdX (n := 159) (q := 8) hx (aX10_1 (b := 229) (by decide)) (dq tX10_count 43 rfl) rfl (by decide) (by decide) (by decide) rfl (fun h_18l h_18u => ?_)
    have h_18l : (-2147483648) ≤ M (229 + 1) 8 := h_18l
    have h_18u : M (229 + 1) 8 ≤ 2147483647 := h_18u
    exact g_iret hx hr (dq tX10_count 44 rfl) (zrI h_18l h_18u (by decide) (by decide)) rfl
  by_cases c_19 : what = 9
  · refine g_swI (t := 160) hx (dq tX10_count 1 rfl) c_19 (by decide) (by decide) rfl (by decide) ?_
    refine g_aload_n (n := 161) hx 0 (dq tX10_count 45 rfl) rfl rfl ?_
    refine g_iconst (n := 162) hx (dq tX10_count 46 rfl) rfl ?_
    refine g_bipush (n := 164) hx (dq tX10_count 47 rfl) rfl (by decide) ?_
    refine g_callVi (n := 167) (As := [vI 0, vI 8]) (rest := []) hx (ctX10_countOf Γ M 0 (by decide) (by decide) 8 (by decide) (by decide)) mlX10_638 (obX10 (by decide)) (dq tX10_count 48 rfl) rfl (Nat.le_of_ble_eq_true rfl) (Nat.le_of_ble_eq_true rfl) (Nat.le_of_ble_eq_true rfl) rfl (fun z_20 M_21 h_22 p_23 => ?_)
    obtain rfl := p_23
    exact g_iret hx hr (dq tX10_count 49 rfl) h_22 rfl
  by_cases c_25 : what = 10
  · refine g_swI (t := 168) hx (dq tX10_count 1 rfl) c_25 (by decide) (by decide) rfl (by decide) ?_
    refine g_aload_n (n := 169) hx 0 (dq tX10_count 50 rfl) rfl rfl ?_
    refine g_bipush (n := 171) hx (dq tX10_count 51 rfl) rfl (by decide) ?_
    refine g_bipush (n := 173) hx (dq tX10_count 52 rfl) rfl (by decide) ?_
    refine g_callVi (n := 176) (As := [vI 40, vI 40]) (rest := []) hx (ctX10_countOf Γ M 40 (by decide) (by decide) 40 (by decide) (by decide)) mlX10_638 (obX10 (by decide)) (dq tX10_count 53 rfl) rfl (Nat.le_of_ble_eq_true rfl) (Nat.le_of_ble_eq_true rfl) (Nat.le_of_ble_eq_true rfl) rfl (fun z_26 M_27 h_28 p_29 => ?_)
    obtain rfl := p_29
    exact g_iret hx hr (dq tX10_count 54 rfl) h_28 rfl
  by_cases c_31 : what = 11
  · refine g_swI (t := 177) hx (dq tX10_count 1 rfl) c_31 (by decide) (by decide) rfl (by decide) ?_
    refine g_aload_n (n := 178) hx 0 (dq tX10_count 55 rfl) rfl rfl ?_
    refine g_bipush (n := 180) hx (dq tX10_count 56 rfl) rfl (by decide) ?_
    refine g_bipush (n := 182) hx (dq tX10_count 57 rfl) rfl (by decide) ?_
    refine g_callVi (n := 185) (As := [vI 41, vI 41]) (rest := []) hx (ctX10_countOf Γ M 41 (by decide) (by decide) 41 (by decide) (by decide)) mlX10_638 (obX10 (by decide)) (dq tX10_count 58 rfl) rfl (Nat.le_of_ble_eq_true rfl) (Nat.le_of_ble_eq_true rfl) (Nat.le_of_ble_eq_true rfl) rfl (fun z_32 M_33 h_34 p_35 => ?_)
    obtain rfl := p_35
    exact g_iret hx hr (dq tX10_count 59 rfl) h_34 rfl
  by_cases c_37 : what = 12
  · refine g_swI (t := 186) hx (dq tX10_count 1 rfl) c_37 (by decide) (by decide) rfl (by decide) ?_
    refine g_aload_n (n := 187) hx 0 (dq tX10_count 60 rfl) rfl rfl ?_
    refine g_getR (n := 190) hx glX10_9 (sX10_1 (by decide)) (dq tX10_count 61 rfl) rfl ?_
    refine g_bipush (n := 192) hx (dq tX10_count 62 rfl) rfl (by decide) ?_
    refine g_ialdX (n := 193) (q := 9) hx (aX10_1 (b := 229) (by decide)) (dq tX10_count 63 rfl) rfl (by decide) (by decide) (by decide) rfl (fun h_38l h_38u => ?_)
    have h_38l : (-2147483648) ≤ M (229 + 1) 9 := h_38l
    have h_38u : M (229 + 1) 9 ≤ 2147483647 := h_38u
    exact g_iret hx hr (dq tX10_count 64 rfl) (zrI h_38l h_38u (by decide) (by decide)) rfl
  by_cases c_39 : what = 13
  · refine g_swI (t := 194) hx (dq tX10_count 1 rfl) c_39 (by decide) (by decide) rfl (by decide) ?_
    refine g_aload_n (n := 195) hx 0 (dq tX10_count 65 rfl) rfl rfl ?_
    refine g_getR (n := 198) hx glX10_9 (sX10_1 (by decide)) (dq tX10_count 66 rfl) rfl ?_
    refine g_bipush (n := 200) hx (dq tX10_count 67 rfl) rfl (by decide) ?_
    refine g_ialdX (n := 201) (q := 10) hx (aX10_1 (b := 229) (by decide)) (dq tX10_count 68 rfl) rfl (by decide) (by decide) (by decide) rfl (fun h_40l h_40u => ?_)
    have h_40l : 0 ≤ M (229 + 1) 10 := h_40l
    have h_40u : M (229 + 1) 10 ≤ 20 := h_40u
    exact g_iret hx hr (dq tX10_count 69 rfl) (zrI h_40l h_40u (by decide) (by decide)) rfl
  by_cases c_41 : what = 14
  · refine g_swI (t := 202) hx (dq tX10_count 1 rfl) c_41 (by decide) (by decide) rfl (by decide) ?_
    refine g_aload_n (n := 203) hx 0 (dq tX10_count 70 rfl) rfl rfl ?_
    refine g_getR (n := 206) hx glX10_9 (sX10_1 (by decide)) (dq tX10_count 71 rfl) rfl ?_
    refine g_bipush (n := 208) hx (dq tX10_count 72 rfl) rfl (by decide) ?_
    refine g_ialdX (n := 209) (q := 11) hx (aX10_1 (b := 229) (by decide)) (dq tX10_count 73 rfl) rfl (by decide) (by decide) (by decide) rfl (fun h_42l h_42u => ?_)
    have h_42l : 0 ≤ M (229 + 1) 11 := h_42l
    have h_42u : M (229 + 1) 11 ≤ 20 := h_42u
    exact g_iret hx hr (dq tX10_count 74 rfl) (zrI h_42l h_42u (by decide) (by decide)) rfl
  by_cases c_43 : what = 15
  · refine g_swI (t := 210) hx (dq tX10_count 1 rfl) c_43 (by decide) (by decide) rfl (by decide) ?_
    refine g_aload_n (n := 211) hx 0 (dq tX10_count 75 rfl) rfl rfl ?_
    refine g_getR (n := 214) hx glX10_9 (sX10_1 (by decide)) (dq tX10_count 76 rfl) rfl ?_
    refine g_bipush (n := 216) hx (dq tX10_count 77 rfl) rfl (by decide) ?_
    refine g_ialdX (n := 217) (q := 12) hx (aX10_1 (b := 229) (by decide)) (dq tX10_count 78 rfl) rfl (by decide) (by decide) (by decide) rfl (fun h_44l h_44u => ?_)
    have h_44l : 0 ≤ M (229 + 1) 12 := h_44l
    have h_44u : M (229 + 1) 12 ≤ 12 := h_44u
    exact g_iret hx hr (dq tX10_count 79 rfl) (zrI h_44l h_44u (by decide) (by decide)) rfl
  by_cases c_45 : what = 16
  · refine g_swI (t := 218) hx (dq tX10_count 1 rfl) c_45 (by decide) (by decide) rfl (by decide) ?_
    refine g_aload_n (n := 219) hx 0 (dq tX10_count 80 rfl) rfl rfl ?_
    refine g_getR (n := 222) hx glX10_9 (sX10_1 (by decide)) (dq tX10_count 81 rfl) rfl ?_
    refine g_bipush (n := 224) hx (dq tX10_count 82 rfl) rfl (by decide) ?_
    refine g_ialdX (n := 225) (q := 13) hx (aX10_1 (b := 229) (by decide)) (dq tX10_count 83 rfl) rfl (by decide) (by decide) (by decide) rfl (fun h_46l h_46u => ?_)
    have h_46l : (-2147483648) ≤ M (229 + 1) 13 := h_46l
    have h_46u : M (229 + 1) 13 ≤ 2147483647 := h_46u
    exact g_iret hx hr (dq tX10_count 84 rfl) (zrI h_46l h_46u (by decide) (by decide)) rfl
  by_cases c_47 : what = 17
  · refine g_swI (t := 226) hx (dq tX10_count 1 rfl) c_47 (by decide) (by decide) rfl (by decide) ?_
    refine g_aload_n (n := 227) hx 0 (dq tX10_count 85 rfl) rfl rfl ?_
    refine g_getR (n := 230) hx glX10_9 (sX10_1 (by decide)) (dq tX10_count 86 rfl) rfl ?_
    refine g_bipush (n := 232) hx (dq tX10_count 87 rfl) rfl (by decide) ?_
    refine g_ialdX (n := 233) (q := 16) hx (aX10_1 (b := 229) (by decide)) (dq tX10_count 88 rfl) rfl (by decide) (by decide) (by decide) rfl (fun h_48l h_48u => ?_)
    have h_48l : (-2147483648) ≤ M (229 + 1) 16 := h_48l
    have h_48u : M (229 + 1) 16 ≤ 2147483647 := h_48u
    exact g_iret hx hr (dq tX10_count 89 rfl) (zrI h_48l h_48u (by decide) (by decide)) rfl
  by_cases c_49 : what = 18
  · refine g_swI (t := 234) hx (dq tX10_count 1 rfl) c_49 (by decide) (by decide) rfl (by decide) ?_
    refine g_aload_n (n := 235) hx 0 (dq tX10_count 90 rfl) rfl rfl ?_
    refine g_getI (n := 238) hx glX10_216 (sX10_37 (by decide)) (dq tX10_count 91 rfl) rfl (fun h_50l h_50u => ?_)
    exact g_iret hx hr (dq tX10_count 92 rfl) (zrI h_50l h_50u (by decide) (by decide)) rfl
  by_cases c_51 : what = 19
  · refine g_swI (t := 239) hx (dq tX10_count 1 rfl) c_51 (by decide) (by decide) rfl (by decide) ?_
    refine g_aload_n (n := 240) hx 0 (dq tX10_count 93 rfl) rfl rfl ?_
    refine g_getR (n := 243) hx glX10_9 (sX10_1 (by decide)) (dq tX10_count 94 rfl) rfl ?_
    refine g_iconst (n := 244) hx (dq tX10_count 95 rfl) rfl ?_
    refine g_ialdX (n := 245) (q := 4) hx (aX10_1 (b := 229) (by decide)) (dq tX10_count 96 rfl) rfl (by decide) (by decide) (by decide) rfl (fun h_52l h_52u => ?_)
    have h_52l : (-2147483648) ≤ M (229 + 1) 4 := h_52l
    have h_52u : M (229 + 1) 4 ≤ 2147483647 := h_52u
    exact g_iret hx hr (dq tX10_count 97 rfl) (zrI h_52l h_52u (by decide) (by decide)) rfl
  refine g_swO (t := 246) hx (dq tX10_count 1 rfl) (zrI hwhatl hwhatu (by decide) (by decide)) (by omega) (by decide) ?_
  refine g_iconst (n := 247) hx (dq tX10_count 98 rfl) rfl ?_
  exact g_iret hx hr (dq tX10_count 99 rfl) ⟨by decide, by decide⟩ rfl

abbrev qctX10_wedding (M : zM) (v : Int) (z : Int) (M' : zM) : Prop := (∀ u_ v_, u_ ≠ 229 + 16 ∧ u_ ≠ 229 + 19 ∧ (u_ ≠ 229 + 1 ∨ v_ ≠ 10) → M' u_ v_ = M u_ v_)
set_option maxHeartbeats 4000000 in
set_option maxRecDepth 100000 in
theorem ctX10_wedding (Γ : Gam) (M : zM) (v : Int) (hvl : (-2147483648) ≤ v) (hvu : v ≤ 2147483647)  : CtI Γ yX10_wedding cX10_wedding 4 (some .int) 2 46 [aR Γ 229, vI v] M (qctX10_wedding M v) := by
  refine met_i (by decide) (Nat.le_of_ble_eq_true rfl) (fun x hx hr => ?_)
  show G Γ x 4 (QI Γ x (qctX10_wedding M v)) M 0 [(0, aR Γ 229), (1, vI v)] []
  refine g_aload_n (n := 1) hx 0 (dq tX10_wedding 0 rfl) rfl rfl ?_
  refine g_iload_n (n := 2) hx 1 (dq tX10_wedding 1 rfl) rfl rfl ?_
  refine g_callVi (n := 5) (As := [vI v]) (rest := []) hx (ctX10_isVillage Γ M v (by omega) (by omega)) mlX10_419 (obX10 (by decide)) (dq tX10_wedding 2 rfl) rfl (Nat.le_of_ble_eq_true rfl) (Nat.le_of_ble_eq_true rfl) (Nat.le_of_ble_eq_true rfl) rfl (fun z_1 M_2 h_3 p_4 => ?_)
  obtain ⟨rfl, b_6⟩ := p_4
  refine g_if_eq (n := 8) (t := 20) hx (dq tX10_wedding 3 rfl) (by decide) rfl h_3 (fun c_10 => ?_) (fun c_10 => ?_)
  · clear b_6
    refine g_bipush (n := 22) hx (dq tX10_wedding 10 rfl) rfl (by decide) ?_
    exact g_iret hx hr (dq tX10_wedding 11 rfl) ⟨by decide, by decide⟩ (fun _ _ _ => rfl)
  · have b_6 := b_6.resolve_left c_10
    obtain ⟨-, h_7, h_8, h_9⟩ := b_6
    refine g_aload_n (n := 9) hx 0 (dq tX10_wedding 4 rfl) rfl rfl ?_
    refine g_getR (n := 12) hx glX10_9 (sX10_1 (by decide)) (dq tX10_wedding 5 rfl) rfl ?_
    refine g_bipush (n := 14) hx (dq tX10_wedding 6 rfl) rfl (by decide) ?_
    refine g_ialdX (n := 15) (q := 10) hx (aX10_1 (b := 229) (by decide)) (dq tX10_wedding 7 rfl) rfl (by decide) (by decide) (by decide) rfl (fun h_11l h_11u => ?_)
    have h_11l : 0 ≤ M (229 + 1) 10 := h_11l
    have h_11u : M (229 + 1) 10 ≤ 20 := h_11u
    refine g_bipush (n := 17) hx (dq tX10_wedding 8 rfl) rfl (by decide) ?_
    refine g_icmp_ne (n := 20) (t := 23) hx (dq tX10_wedding 9 rfl) (by decide) rfl (zrI h_11l h_11u (by decide) (by decide)) ⟨by decide, by decide⟩ (fun c_12 => ?_) (fun c_12 => ?_)
    · refine g_aload_n (n := 24) hx 0 (dq tX10_wedding 12 rfl) rfl rfl ?_
      refine g_bipush (n := 26) hx (dq tX10_wedding 13 rfl) rfl (by decide) ?_
      refine g_iload_n (n := 27) hx 1 (dq tX10_wedding 14 rfl) rfl rfl ?_
      refine g_iadd (n := 28) hx (dq tX10_wedding 15 rfl) rfl ?_
      refine g_callVi (n := 31) (As := [vI (20 + v)]) (rest := []) hx (ctX10_logsAt Γ M (20 + v) (by omega) (by omega)) mlX10_206 (obX10 (by decide)) (dq tX10_wedding 16 rfl) rfl (Nat.le_of_ble_eq_true rfl) (Nat.le_of_ble_eq_true rfl) (Nat.le_of_ble_eq_true rfl) rfl (fun z_13 M_14 h_15 p_16 => ?_)
      obtain rfl := p_16
      refine g_istore_n (n := 32) (lv' := [(2, vI z_13), (0, aR Γ 229), (1, vI v)]) hx (dq tX10_wedding 17 rfl) (by decide) rfl rfl ?_
      refine g_iconst (n := 33) hx (dq tX10_wedding 18 rfl) rfl ?_
      refine g_istore_n (n := 34) (lv' := [(3, vI 0), (2, vI z_13), (0, aR Γ 229), (1, vI v)]) hx (dq tX10_wedding 19 rfl) (by decide) rfl rfl ?_
      have L_20 : ∀ (n_ : Nat) (i_18 : Int) (M_19 : zM), (0 ≤ i_18) → (i_18 ≤ 12) → (∀ u_ v_, u_ ≠ 229 + 16 → M_19 u_ v_ = M u_ v_) → ((12 - i_18).toNat = n_) → G Γ x 4 (QI Γ x (qctX10_wedding M v)) M_19 34 [(3, vI i_18), (2, vI z_13), (0, aR Γ 229), (1, vI v)] [] := by
        intro n_
        induction n_ using Nat.strongRecOn with
        | _ n_ ih_21 =>
          intro i_18 M_19 h_24 h_25 f_22 hm_23
          refine g_iload_n (n := 35) hx 0 (dq tX10_wedding 20 rfl) rfl rfl ?_
          refine g_aload_n (n := 36) hx 2 (dq tX10_wedding 21 rfl) rfl rfl ?_
          refine g_getR (n := 39) hx glX10_9 (sX10_1 (by decide)) (dq tX10_wedding 22 rfl) rfl ?_
          refine g_iconst (n := 40) hx (dq tX10_wedding 23 rfl) rfl ?_
          refine g_ialdX (n := 41) (q := 3) hx (aX10_1 (b := 229) (by decide)) (dq tX10_wedding 24 rfl) rfl (by decide) (by decide) (by decide) rfl (fun h_26l h_26u => ?_)
          have h_26l : 0 ≤ M_19 (229 + 1) 3 := h_26l
          have h_26u : M_19 (229 + 1) 3 ≤ 12 := h_26u
          have e_27 : M_19 (229 + 1) 3 = M (229 + 1) 3 := (f_22 (229 + 1) 3 (by omega))
          refine g_icmp_ge (n := 44) (t := 64) hx (dq tX10_wedding 25 rfl) (by decide) rfl ⟨by omega, by omega⟩ (zrI h_26l h_26u (by decide) (by decide)) (fun c_28 => ?_) (fun c_28 => ?_)
          · refine g_aload_n (n := 65) hx 2 (dq tX10_wedding 40 rfl) rfl rfl ?_
            refine g_getR (n := 68) hx glX10_64 (sX10_19 (by decide)) (dq tX10_wedding 41 rfl) rfl ?_
            refine g_aload_n (n := 69) hx 2 (dq tX10_wedding 42 rfl) rfl rfl ?_
            refine g_getR (n := 72) hx glX10_9 (sX10_1 (by decide)) (dq tX10_wedding 43 rfl) rfl ?_
            refine g_bipush (n := 74) hx (dq tX10_wedding 44 rfl) rfl (by decide) ?_
            refine g_ialdX (n := 75) (q := 10) hx (aX10_1 (b := 229) (by decide)) (dq tX10_wedding 45 rfl) rfl (by decide) (by decide) (by decide) rfl (fun h_29l h_29u => ?_)
            have h_29l : 0 ≤ M_19 (229 + 1) 10 := h_29l
            have h_29u : M_19 (229 + 1) 10 ≤ 20 := h_29u
            have e_30 : M_19 (229 + 1) 10 = M (229 + 1) 10 := (f_22 (229 + 1) 10 (by omega))
            refine g_iload_n (n := 76) hx 1 (dq tX10_wedding 46 rfl) rfl rfl ?_
            have e_31 : M_19 (229 + 1) 1 = M (229 + 1) 1 := (f_22 (229 + 1) 1 (by omega))
            refine g_iast (n := 77) (q := (M_19 (229 + 1) 10).toNat) hx (aX10_19 (b := 229) (by decide)) (dq tX10_wedding 47 rfl) rfl (by omega) (by omega) (by omega) rfl (by omega) (by omega) (fun M_32 m_33e m_33 => ?_)
            refine g_aload_n (n := 78) hx 2 (dq tX10_wedding 48 rfl) rfl rfl ?_
            refine g_getR (n := 81) hx glX10_9 (sX10_1 (by decide)) (dq tX10_wedding 49 rfl) rfl ?_
            refine g_bipush (n := 83) hx (dq tX10_wedding 50 rfl) rfl (by decide) ?_
            refine g_dup2 (n := 84) hx (dq tX10_wedding 51 rfl) rfl rfl rfl ?_
            refine g_ialdX (n := 85) (q := 10) hx (aX10_1 (b := 229) (by decide)) (dq tX10_wedding 52 rfl) rfl (by decide) (by decide) (by decide) rfl (fun h_34l h_34u => ?_)
            have h_34l : 0 ≤ M_32 (229 + 1) 10 := h_34l
            have h_34u : M_32 (229 + 1) 10 ≤ 20 := h_34u
            have e_35 : M_32 (229 + 1) 10 = M_19 (229 + 1) 10 := (m_33 (229 + 1) 10 (by omega))
            refine g_iconst (n := 86) hx (dq tX10_wedding 53 rfl) rfl ?_
            refine g_iadd (n := 87) hx (dq tX10_wedding 54 rfl) rfl ?_
            have e_36 : M_32 (229 + 1) 1 = M_19 (229 + 1) 1 := (m_33 (229 + 1) 1 (by omega))
            have e_37 : M_32 (229 + 1) 3 = M_19 (229 + 1) 3 := (m_33 (229 + 1) 3 (by omega))
            refine g_iastX (n := 88) (q := 10) hx (aX10_1 (b := 229) (by decide)) (dq tX10_wedding 55 rfl) rfl (by decide) (by decide) (by decide) rfl (show 0 ≤ (M_32 (229 + 1) 10) + 1 by omega) (show (M_32 (229 + 1) 10) + 1 ≤ 20 by omega) (fun M_38 m_39e m_39 => ?_)
            refine g_iload_n (n := 89) hx 1 (dq tX10_wedding 56 rfl) rfl rfl ?_
            have e_40 : M_38 (229 + 1) 1 = M_32 (229 + 1) 1 := (m_39 (229 + 1) 1 (by omega))
            have e_41 : M_38 (229 + 1) 3 = M_32 (229 + 1) 3 := (m_39 (229 + 1) 3 (by omega))
            exact g_iret hx hr (dq tX10_wedding 57 rfl) h_15 (fun u_ v_ huv_ => (((m_39 u_ v_ (by omega)).trans (m_33 u_ v_ (by omega))).trans (f_22 u_ v_ (by omega))))
          · refine g_aload_n (n := 45) hx 2 (dq tX10_wedding 26 rfl) rfl rfl ?_
            refine g_getR (n := 48) hx glX10_55 (sX10_16 (by decide)) (dq tX10_wedding 27 rfl) rfl ?_
            refine g_iload_n (n := 49) hx 0 (dq tX10_wedding 28 rfl) rfl rfl ?_
            refine g_dup2 (n := 50) hx (dq tX10_wedding 29 rfl) rfl rfl rfl ?_
            refine g_iald (n := 51) (q := i_18.toNat) hx (aX10_16 (b := 229) (by decide)) (dq tX10_wedding 30 rfl) rfl (by omega) (by omega) (by omega) rfl (fun h_42l h_42u => ?_)
            refine g_iload_n (n := 52) hx 1 (dq tX10_wedding 31 rfl) rfl rfl ?_
            refine g_iload_n (n := 53) hx 0 (dq tX10_wedding 32 rfl) rfl rfl ?_
            refine g_ishr (n := 54) hx (dq tX10_wedding 33 rfl) rfl (fun z_43 h_44 => ?_)
            refine g_iconst (n := 55) hx (dq tX10_wedding 34 rfl) rfl ?_
            refine g_iand (n := 56) hx (dq tX10_wedding 35 rfl) rfl (fun z_46 h_47 h_481 h_482 => ?_)
            obtain ⟨h_483, h_484⟩ := h_481 (by omega) (by omega)
            clear h_481 h_482
            refine g_iadd (n := 57) hx (dq tX10_wedding 36 rfl) rfl ?_
            refine g_any (fun z_49 h_50 => ?_)
            have e_51 : M_19 (229 + 1) 1 = M (229 + 1) 1 := (f_22 (229 + 1) 1 (by omega))
            refine g_iast (n := 58) (q := i_18.toNat) hx (aX10_16 (b := 229) (by decide)) (dq tX10_wedding 37 rfl) rfl (by omega) (by omega) (by omega) rfl (by omega) (by omega) (fun M_52 m_53e m_53 => ?_)
            refine g_iinc (n := 61) (lv' := [(3, vI (i_18 + 1)), (2, vI z_13), (0, aR Γ 229), (1, vI v)]) hx 0 (dq tX10_wedding 38 rfl) rfl (by decide) rfl rfl ?_
            refine g_goto (n := 34) hx (dq tX10_wedding 39 rfl) (by decide) ?_
            have e_54 : M_52 (229 + 1) 1 = M_19 (229 + 1) 1 := (m_53 (229 + 1) 1 (by omega))
            have e_55 : M_52 (229 + 1) 3 = M_19 (229 + 1) 3 := (m_53 (229 + 1) 3 (by omega))
            exact ih_21 _ (by omega) (i_18 + 1) M_52 (by omega) (by omega) (fun u_ v_ huv_ => ((m_53 u_ v_ (by omega)).trans (f_22 u_ v_ (by omega)))) rfl
      exact L_20 _ 0 M (by omega) (by omega) (fun _ _ _ => rfl) rfl
    · refine g_bipush (n := 22) hx (dq tX10_wedding 10 rfl) rfl (by decide) ?_
      exact g_iret hx hr (dq tX10_wedding 11 rfl) ⟨by decide, by decide⟩ (fun _ _ _ => rfl)

abbrev qctX10_draws (M : zM) (of_ : Int) (z : Int) (M' : zM) : Prop := (∀ u_ v_, (u_ ≠ 229 + 1 ∨ v_ ≠ 16) → M' u_ v_ = M u_ v_)
set_option maxHeartbeats 4000000 in
set_option maxRecDepth 100000 in
theorem ctX10_draws (Γ : Gam) (M : zM) (of_ : Int) (hof_l : 1 ≤ of_) (hof_u : of_ ≤ 100)  : CtI Γ yX10_draws cX10_draws 2 (some .int) 0 0 [aR Γ 229, vI of_] M (qctX10_draws M of_) := by
  refine met_i (by decide) (Nat.le_of_ble_eq_true rfl) (fun x hx hr => ?_)
  show G Γ x 2 (QI Γ x (qctX10_draws M of_)) M 0 [(0, aR Γ 229), (1, vI of_)] []
  refine g_aload_n (n := 1) hx 0 (dq tX10_draws 0 rfl) rfl rfl ?_
  refine g_getR (n := 4) hx glX10_9 (sX10_1 (by decide)) (dq tX10_draws 1 rfl) rfl ?_
  refine g_bipush (n := 6) hx (dq tX10_draws 2 rfl) rfl (by decide) ?_
  refine g_aload_n (n := 7) hx 0 (dq tX10_draws 3 rfl) rfl rfl ?_
  refine g_getR (n := 10) hx glX10_9 (sX10_1 (by decide)) (dq tX10_draws 4 rfl) rfl ?_
  refine g_bipush (n := 12) hx (dq tX10_draws 5 rfl) rfl (by decide) ?_
  refine g_ialdX (n := 13) (q := 16) hx (aX10_1 (b := 229) (by decide)) (dq tX10_draws 6 rfl) rfl (by decide) (by decide) (by decide) rfl (fun h_1l h_1u => ?_)
  have h_1l : (-2147483648) ≤ M (229 + 1) 16 := h_1l
  have h_1u : M (229 + 1) 16 ≤ 2147483647 := h_1u
  refine g_i2l (n := 14) hx (dq tX10_draws 7 rfl) rfl (zrI h_1l h_1u (by decide) (by decide)) ?_
  refine g_ldc2 (n := 17) (z := 1103515245) hx wd_1954 (by decide) (dq tX10_draws 8 rfl) rfl ?_
  refine g_lmul (n := 18) hx (dq tX10_draws 9 rfl) rfl (fun w_2 => ?_)
  refine g_ldc2 (n := 21) (z := 12345) hx wd_1955 (by decide) (dq tX10_draws 10 rfl) rfl ?_
  refine g_ladd (n := 22) hx (dq tX10_draws 11 rfl) rfl (fun w_3 => ?_)
  refine g_ldc2 (n := 25) (z := 2147483648) hx wd_1956 (by decide) (dq tX10_draws 12 rfl) rfl ?_
  refine g_lrem (n := 26) hx (dq tX10_draws 13 rfl) rfl (by decide) (fun w_4 => ?_)
  refine g_l2i (n := 27) hx (dq tX10_draws 14 rfl) rfl (fun z_5 h_6 => ?_)
  refine g_iastX (n := 28) (q := 16) hx (aX10_1 (b := 229) (by decide)) (dq tX10_draws 15 rfl) rfl (by decide) (by decide) (by decide) rfl (show (-2147483648) ≤ z_5 by omega) (show z_5 ≤ 2147483647 by omega) (fun M_7 m_8e m_8 => ?_)
  refine g_aload_n (n := 29) hx 0 (dq tX10_draws 16 rfl) rfl rfl ?_
  refine g_getR (n := 32) hx glX10_9 (sX10_1 (by decide)) (dq tX10_draws 17 rfl) rfl ?_
  refine g_bipush (n := 34) hx (dq tX10_draws 18 rfl) rfl (by decide) ?_
  refine g_ialdX (n := 35) (q := 16) hx (aX10_1 (b := 229) (by decide)) (dq tX10_draws 19 rfl) rfl (by decide) (by decide) (by decide) rfl (fun h_9l h_9u => ?_)
  have h_9l : (-2147483648) ≤ M_7 (229 + 1) 16 := h_9l
  have h_9u : M_7 (229 + 1) 16 ≤ 2147483647 := h_9u
  refine g_ldcw (n := 38) (z := 65536) hx wd_1957 (by decide) (dq tX10_draws 20 rfl) rfl ?_
  refine g_idiv (n := 39) hx (dq tX10_draws 21 rfl) rfl (zrI h_9l h_9u (by decide) (by decide)) ⟨by decide, by decide⟩ (by decide) (fun z_10 h_11 h_12 => ?_)
  clear h_12
  refine g_iload_n (n := 40) hx 1 (dq tX10_draws 22 rfl) rfl rfl ?_
  refine g_irem (n := 41) hx (dq tX10_draws 23 rfl) rfl h_11 (zrI hof_l hof_u (by decide) (by decide)) (by omega) (fun z_13 h_14 h_15 => ?_)
  obtain ⟨h_151, h_152, h_153, h_154⟩ := h_15 (by omega)
  have h_155 : 0 ≤ z_10 → 0 ≤ z_13 := fun hh => (h_153 hh).1
  clear h_15 h_153
  have e_16 : M_7 (229 + 1) 1 = M (229 + 1) 1 := (m_8 (229 + 1) 1 (by omega))
  have e_17 : M_7 (229 + 1) 3 = M (229 + 1) 3 := (m_8 (229 + 1) 3 (by omega))
  exact g_iret hx hr (dq tX10_draws 24 rfl) h_14 (fun u_ v_ huv_ => (m_8 u_ v_ (by omega)))
