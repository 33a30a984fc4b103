set_option maxHeartbeats 4000000 in
set_option maxRecDepth 100000 in
theorem ctJ1_charAt_3b0672 (Γ : Gam) (M : zM) (i : Nat) (r : String × Nat × String × Nat) (hi : sN[i]? = some r) (k : Int) (h0 : 0 ≤ k) (h1 : k < r.2.2.2) : CtI Γ yJ1_charAt_3b067 cJ1_charAt_3b067 2 (some .char) 2 43 [.ref (gs Γ (2 * i + 1)), vI k] M (fun z M' => M = M' ∧ z = sbt i k.toNat) := by
  refine met_i (by decide) (Nat.le_of_ble_eq_true rfl) (fun x hx hr => ?_)
  have hle := sNle i r hi
  have hsb := sbt_rg0 i (sN_lt hi) k.toNat (by omega)
  show G Γ x 2 (QI Γ x (fun z M' => M = M' ∧ z = sbt i k.toNat)) M 0 [(0, .ref (gs Γ (2 * i + 1))), (1, vI k)] []
  refine g_iload_n (n := 1) hx 1 (dq tJ1_charAt_3b067 0 rfl) rfl rfl ?_
  refine g_aload_nR (n := 2) hx 0 (dq tJ1_charAt_3b067 1 rfl) rfl rfl ?_
  refine g_tlen (n := 3) hx hi (dq tJ1_charAt_3b067 2 rfl) rfl ?_
  refine g_callSv (n := 6) (As := [vI k, vI r.2.2.2]) (rest := []) hx (ctJ0_checkIndex_df160 Γ M k r.2.2.2 h0 h1 (by omega)) mlJ1_9 (dq tJ1_charAt_3b067 3 rfl) rfl (Nat.le_of_ble_eq_true rfl) (Nat.le_of_ble_eq_true rfl) (Nat.le_of_ble_eq_true rfl) rfl (fun M1 hp => ?_)
  obtain rfl := hp
  refine g_aload_nR (n := 7) hx 0 (dq tJ1_charAt_3b067 4 rfl) rfl rfl ?_
  refine g_iload_n (n := 8) hx 1 (dq tJ1_charAt_3b067 5 rfl) rfl rfl ?_
  refine g_taldE (n := 9) hx hi (dq tJ1_charAt_3b067 6 rfl) rfl h0 h1 (by omega) ?_
  refine g_sipush (n := 12) hx (dq tJ1_charAt_3b067 7 rfl) rfl (by decide) ?_
  refine g_iandE (n := 13) hx (dq tJ1_charAt_3b067 8 rfl) rfl (fun z2 hz2 qe q1 q2 => ?_)
  rw [and255 hsb.1 hsb.2] at qe
  refine g_i2cI (n := 14) hx (dq tJ1_charAt_3b067 9 rfl) rfl (by omega) (by omega) ?_
  exact g_cret hx hr (dq tJ1_charAt_3b067 10 rfl) (by omega) (by omega) ⟨rfl, by omega⟩

set_option maxHeartbeats 4000000 in
set_option maxRecDepth 100000 in
theorem ctJ0_charAt_5068e2 (Γ : Gam) (M : zM) (i : Nat) (r : String × Nat × String × Nat) (hi : sN[i]? = some r) (k : Int) (h0 : 0 ≤ k) (h1 : k < r.2.2.2) : CtI Γ yJ0_charAt_5068e cJ0_charAt_5068e 2 (some .char) 3 64 [sR Γ i, vI k] M (fun z M' => M = M' ∧ z = sbt i k.toNat) := by
  refine met_i (by decide) (Nat.le_of_ble_eq_true rfl) (fun x hx hr => ?_)
  have hle := sNle i r hi
  have hsb := sbt_rg0 i (sN_lt hi) k.toNat (by omega)
  show G Γ x 2 (QI Γ x (fun z M' => M = M' ∧ z = sbt i k.toNat)) M 0 [(0, sR Γ i), (1, vI k)] []
  refine g_aload_nS (n := 1) hx 0 (dq tJ0_charAt_5068e 0 rfl) rfl rfl ?_
  refine g_callSt (n := 4) (As := []) (rest := []) hx (ctJ0_isLatin1_aae02 Γ M i r hi) mlJ0_492 rfl hi (dq tJ0_charAt_5068e 1 rfl) rfl (Nat.le_of_ble_eq_true rfl) (Nat.le_of_ble_eq_true rfl) (Nat.le_of_ble_eq_true rfl) rfl (fun z M1 hz hp => ?_)
  obtain ⟨rfl, rfl⟩ := hp
  refine g_if_eq (n := 7) (t := 16) hx (dq tJ0_charAt_5068e 2 rfl) (by decide) rfl ⟨by decide, by decide⟩ (fun h => absurd h (by decide)) (fun _ => ?_)
  refine g_aload_nS (n := 8) hx 0 (dq tJ0_charAt_5068e 3 rfl) rfl rfl ?_
  refine g_value (n := 11) hx hi wd_1974 (dq tJ0_charAt_5068e 4 rfl) rfl ?_
  refine g_iload_n (n := 12) hx 1 (dq tJ0_charAt_5068e 5 rfl) rfl rfl ?_
  refine g_callSi (n := 15) (As := [.ref (gs Γ (2 * i + 1)), vI k]) (rest := []) hx (ctJ1_charAt_3b0672 Γ M i r hi k h0 h1) mlJ0_495 (dq tJ0_charAt_5068e 6 rfl) rfl (Nat.le_of_ble_eq_true rfl) (Nat.le_of_ble_eq_true rfl) (Nat.le_of_ble_eq_true rfl) rfl (fun z M1 hz hp => ?_)
  obtain ⟨rfl, q1⟩ := hp
  exact g_cret hx hr (dq tJ0_charAt_5068e 7 rfl) (by omega) (by omega) ⟨rfl, q1⟩

abbrev qctX7_wordIn2 (M : zM) (w : Nat) (t9 : Nat → Int) (n9 : Nat) (a9 : Nat) (z : Int) (M' : zM) : Prop := M = M' ∧ (z = wiR t9 a9 ((stp t9 n9 a9 : Int) - a9) w)
set_option maxHeartbeats 4000000 in
set_option maxRecDepth 100000 in
theorem ctX7_wordIn2 (Γ : Gam) (M : zM) (w : Nat) (qw : String × Nat × String × Nat) (hw : sN[w]? = some qw) (hwn : qw.2.2.2 ≤ 100) (t9 : Nat → Int) (n9 : Nat) (a9 : Nat) (ex0 : Tc M t9 n9 a9) : CtI Γ yX7_wordIn cX7_wordIn 6 (some .int) 4 85 [aR Γ 7, sR Γ w] M (qctX7_wordIn2 M w t9 n9 a9) := by
  refine met_i (by decide) (Nat.le_of_ble_eq_true rfl) (fun x hx hr => ?_)
  show G Γ x 6 (QI Γ x (qctX7_wordIn2 M w t9 n9 a9)) M 0 [(0, aR Γ 7), (1, sR Γ w)] []
  have tc := ex0
  have hw32 := sN_lt hw
  have hcl := csL_len hw
  obtain ⟨htx, htn, htk, ht2, ht3, ht4⟩ := tc
  have hn9 := htx.1
  have hrg := stp_le t9 n9 a9 htn
  refine g_aload_n (n := 1) hx 0 (dq tX7_wordIn 0 rfl) rfl rfl ?_
  refine g_getI (n := 4) hx glX7_22 (sX7_3 (by decide)) (dq tX7_wordIn 1 rfl) rfl (fun h_1l h_1u => ?_)
  refine g_aload_n (n := 5) hx 0 (dq tX7_wordIn 2 rfl) rfl rfl ?_
  refine g_getI (n := 8) hx glX7_28 (sX7_2 (by decide)) (dq tX7_wordIn 3 rfl) rfl (fun h_2l h_2u => ?_)
  refine g_isub (n := 9) hx (dq tX7_wordIn 4 rfl) rfl ?_
  refine g_istore_n (n := 10) (lv' := [(2, vI ((M 7 3) - (M 7 2))), (0, aR Γ 7), (1, sR Γ w)]) hx (dq tX7_wordIn 5 rfl) (by decide) rfl rfl ?_
  refine g_iconst (n := 11) hx (dq tX7_wordIn 6 rfl) rfl ?_
  refine g_istore_n (n := 12) (lv' := [(3, vI 0), (2, vI ((M 7 3) - (M 7 2))), (0, aR Γ 7), (1, sR Γ w)]) hx (dq tX7_wordIn 7 rfl) (by decide) rfl rfl ?_
  refine g_iconst (n := 13) hx (dq tX7_wordIn 8 rfl) rfl ?_
  refine g_istore (n := 15) (lv' := [(4, vI 0), (3, vI 0), (2, vI ((M 7 3) - (M 7 2))), (0, aR Γ 7), (1, sR Γ w)]) hx (dq tX7_wordIn 9 rfl) (by decide) rfl rfl ?_
  refine g_iconst (n := 16) hx (dq tX7_wordIn 10 rfl) rfl ?_
  refine g_istore (n := 18) (lv' := [(5, vI 0), (4, vI 0), (3, vI 0), (2, vI ((M 7 3) - (M 7 2))), (0, aR Γ 7), (1, sR Γ w)]) hx (dq tX7_wordIn 11 rfl) (by decide) rfl rfl ?_
  have L_6 : ∀ (n_ : Nat) (i_3 : Int) (i_4 : Int) (i_5 : Int), (0 ≤ i_3) → (i_3 ≤ 102) → ((-1) ≤ i_4) → (i_4 ≤ 400) → (0 ≤ i_5) → (i_5 ≤ 102) → (WI t9 a9 ((stp t9 n9 a9 : Int) - a9) w i_3 i_5 i_4) → (i_3 ≤ (csL w).length + 1) → (i_5 ≤ i_3) → (i_4 ≤ (stp t9 n9 a9 : Int) - a9) → ((102 - i_3).toNat = n_) → G Γ x 6 (QI Γ x (qctX7_wordIn2 M w t9 n9 a9)) M 18 [(5, vI i_3), (4, vI i_4), (3, vI i_5), (2, vI ((M 7 3) - (M 7 2))), (0, aR Γ 7), (1, sR Γ w)] [] := by
    intro n_
    induction n_ using Nat.strongRecOn with
    | _ n_ ih_7 =>
      intro i_3 i_4 i_5 h_14 h_15 h_16 h_17 h_18 h_19 h_10 h_11 h_12 h_13 hm_9
      refine g_iload (n := 20) hx 0 (dq tX7_wordIn 12 rfl) rfl rfl ?_
      refine g_aload_nS (n := 21) hx 5 (dq tX7_wordIn 13 rfl) rfl rfl ?_
      refine g_callSt (n := 24) (As := []) (rest := [vI i_3]) hx (ctJ0_length_8abf5 Γ M w _ hw) mlX7_34 rfl hw (dq tX7_wordIn 14 rfl) rfl (Nat.le_of_ble_eq_true rfl) (Nat.le_of_ble_eq_true rfl) (Nat.le_of_ble_eq_true rfl) rfl (fun z_20 M_21 h_22 p_23 => ?_)
      obtain ⟨rfl, h_24⟩ := p_23
      refine g_icmp_gt (n := 27) (t := 116) hx (dq tX7_wordIn 15 rfl) (by decide) rfl ⟨by omega, by omega⟩ h_22 (fun c_25 => ?_) (fun c_25 => ?_)
      · refine g_iconst (n := 117) hx (dq tX7_wordIn 60 rfl) rfl ?_
        exact g_iret hx hr (dq tX7_wordIn 61 rfl) ⟨by decide, by decide⟩ ⟨rfl, (WI.out h_10 (by omega))⟩
      · refine g_iload_n (n := 28) hx 3 (dq tX7_wordIn 16 rfl) rfl rfl ?_
        refine g_if_le (n := 31) (t := 116) hx (dq tX7_wordIn 17 rfl) (by decide) rfl ⟨by omega, by omega⟩ (fun c_26 => ?_) (fun c_26 => ?_)
        · refine g_iconst (n := 117) hx (dq tX7_wordIn 60 rfl) rfl ?_
          exact g_iret hx hr (dq tX7_wordIn 61 rfl) ⟨by decide, by decide⟩ ⟨rfl, (WI.out h_10 (by omega))⟩
        · refine g_iload (n := 33) hx 0 (dq tX7_wordIn 18 rfl) rfl rfl ?_
          refine g_aload_nS (n := 34) hx 5 (dq tX7_wordIn 19 rfl) rfl rfl ?_
          refine g_callSt (n := 37) (As := []) (rest := [vI i_3]) hx (ctJ0_length_8abf5 Γ M w _ hw) mlX7_34 rfl hw (dq tX7_wordIn 20 rfl) rfl (Nat.le_of_ble_eq_true rfl) (Nat.le_of_ble_eq_true rfl) (Nat.le_of_ble_eq_true rfl) rfl (fun z_27 M_28 h_29 p_30 => ?_)
          obtain ⟨rfl, h_31⟩ := p_30
          refine g_icmp_eq (n := 40) (t := 51) hx (dq tX7_wordIn 21 rfl) (by decide) rfl ⟨by omega, by omega⟩ h_29 (fun c_32 => ?_) (fun c_32 => ?_)
          · refine g_iload (n := 53) hx 1 (dq tX7_wordIn 27 rfl) rfl rfl ?_
            refine g_iload_n (n := 54) hx 3 (dq tX7_wordIn 28 rfl) rfl rfl ?_
            refine g_icmp_ne (n := 57) (t := 59) hx (dq tX7_wordIn 29 rfl) (by decide) rfl ⟨by omega, by omega⟩ ⟨by omega, by omega⟩ (fun c_33 => ?_) (fun c_33 => ?_)
            · refine g_iinc (n := 62) (lv' := [(3, vI (i_5 + 1)), (5, vI i_3), (4, vI i_4), (2, vI ((M 7 3) - (M 7 2))), (0, aR Γ 7), (1, sR Γ w)]) hx 2 (dq tX7_wordIn 32 rfl) rfl (by decide) rfl rfl ?_
              refine g_iconst (n := 63) hx (dq tX7_wordIn 33 rfl) rfl ?_
              refine g_istore (n := 65) (lv' := [(4, vI 0), (3, vI (i_5 + 1)), (5, vI i_3), (2, vI ((M 7 3) - (M 7 2))), (0, aR Γ 7), (1, sR Γ w)]) hx (dq tX7_wordIn 34 rfl) (by decide) rfl rfl ?_
              refine g_goto (n := 110) hx (dq tX7_wordIn 35 rfl) (by decide) ?_
              refine g_iinc (n := 113) (lv' := [(5, vI (i_3 + 1)), (4, vI 0), (3, vI (i_5 + 1)), (2, vI ((M 7 3) - (M 7 2))), (0, aR Γ 7), (1, sR Γ w)]) hx 2 (dq tX7_wordIn 58 rfl) rfl (by decide) rfl rfl ?_
              refine g_goto (n := 18) hx (dq tX7_wordIn 59 rfl) (by decide) ?_
              exact ih_7 _ (by omega) (i_3 + 1) 0 (i_5 + 1) (by omega) (by omega) (by omega) (by omega) (by omega) (by omega) (WI.next h_10 (by omega) (by omega) (by omega) (by omega) rfl rfl) (by omega) (by omega) (by omega) rfl
            · refine g_iload_n (n := 58) hx 2 (dq tX7_wordIn 30 rfl) rfl rfl ?_
              exact g_iret hx hr (dq tX7_wordIn 31 rfl) ⟨by omega, by omega⟩ ⟨rfl, (WI.ret h_10 (by omega) (by omega) (by omega) (by omega) (by omega))⟩
          · refine g_aload_nS (n := 41) hx 5 (dq tX7_wordIn 22 rfl) rfl rfl ?_
            refine g_iload (n := 43) hx 0 (dq tX7_wordIn 23 rfl) rfl rfl ?_
            refine g_callSt (n := 46) (As := [vI i_3]) (rest := []) hx (ctJ0_charAt_5068e2 Γ M w _ hw i_3 (by omega) (by omega)) mlX7_40 rfl hw (dq tX7_wordIn 24 rfl) rfl (Nat.le_of_ble_eq_true rfl) (Nat.le_of_ble_eq_true rfl) (Nat.le_of_ble_eq_true rfl) rfl (fun z_34 M_35 h_36 p_37 => ?_)
            obtain ⟨rfl, h_38⟩ := p_37
            have h_38r := sbt_rg0 w (by first | decide | omega) i_3.toNat (by omega)
            refine g_bipush (n := 48) hx (dq tX7_wordIn 25 rfl) rfl (by decide) ?_
            refine g_icmp_ne (n := 51) (t := 68) hx (dq tX7_wordIn 26 rfl) (by decide) rfl h_36 ⟨by decide, by decide⟩ (fun c_39 => ?_) (fun c_39 => ?_)
            · refine g_iload (n := 70) hx 1 (dq tX7_wordIn 36 rfl) rfl rfl ?_
              refine g_if_lt (n := 73) (t := 110) hx (dq tX7_wordIn 37 rfl) (by decide) rfl ⟨by omega, by omega⟩ (fun c_40 => ?_) (fun c_40 => ?_)
              · refine g_iinc (n := 113) (lv' := [(5, vI (i_3 + 1)), (4, vI i_4), (3, vI i_5), (2, vI ((M 7 3) - (M 7 2))), (0, aR Γ 7), (1, sR Γ w)]) hx 0 (dq tX7_wordIn 58 rfl) rfl (by decide) rfl rfl ?_
                refine g_goto (n := 18) hx (dq tX7_wordIn 59 rfl) (by decide) ?_
                exact ih_7 _ (by omega) (i_3 + 1) i_4 i_5 (by omega) (by omega) (by omega) (by omega) (by omega) (by omega) (WI.step h_10 (by omega) (by omega) (by omega) rfl (by omega)) (by omega) (by omega) (by omega) rfl
              · refine g_iload (n := 75) hx 1 (dq tX7_wordIn 38 rfl) rfl rfl ?_
                refine g_iload_n (n := 76) hx 3 (dq tX7_wordIn 39 rfl) rfl rfl ?_
                refine g_icmp_ge (n := 79) (t := 107) hx (dq tX7_wordIn 40 rfl) (by decide) rfl ⟨by omega, by omega⟩ ⟨by omega, by omega⟩ (fun c_41 => ?_) (fun c_41 => ?_)
                · refine g_iconst (n := 108) hx (dq tX7_wordIn 56 rfl) rfl ?_
                  refine g_istore (n := 110) (lv' := [(4, vI (-1)), (5, vI i_3), (3, vI i_5), (2, vI ((M 7 3) - (M 7 2))), (0, aR Γ 7), (1, sR Γ w)]) hx (dq tX7_wordIn 57 rfl) (by decide) rfl rfl ?_
                  refine g_iinc (n := 113) (lv' := [(5, vI (i_3 + 1)), (4, vI (-1)), (3, vI i_5), (2, vI ((M 7 3) - (M 7 2))), (0, aR Γ 7), (1, sR Γ w)]) hx 1 (dq tX7_wordIn 58 rfl) rfl (by decide) rfl rfl ?_
                  refine g_goto (n := 18) hx (dq tX7_wordIn 59 rfl) (by decide) ?_
                  exact ih_7 _ (by omega) (i_3 + 1) (-1) i_5 (by omega) (by omega) (by omega) (by omega) (by omega) (by omega) (WI.step h_10 (by omega) (by omega) (by omega) rfl (by omega)) (by omega) (by omega) (by omega) rfl
                · refine g_aload_n (n := 80) hx 4 (dq tX7_wordIn 41 rfl) rfl rfl ?_
                  refine g_getR (n := 83) hx glX7_9 (sX7_0 (by decide)) (dq tX7_wordIn 42 rfl) rfl ?_
                  refine g_aload_n (n := 84) hx 4 (dq tX7_wordIn 43 rfl) rfl rfl ?_
                  refine g_getI (n := 87) hx glX7_28 (sX7_2 (by decide)) (dq tX7_wordIn 44 rfl) rfl (fun h_42l h_42u => ?_)
                  refine g_iload (n := 89) hx 1 (dq tX7_wordIn 45 rfl) rfl rfl ?_
                  refine g_iadd (n := 90) hx (dq tX7_wordIn 46 rfl) rfl ?_
                  refine g_iald (n := 91) (q := ((M 7 2) + i_4).toNat) hx (aX7_0 (b := 7) (by decide)) (dq tX7_wordIn 47 rfl) rfl (by omega) (by omega) (by omega) rfl (fun h_43l h_43u => ?_)
                  have h_44 : M (7 + 1) (((M 7 2) + i_4).toNat) = t9 (((M 7 2) + i_4).toNat) := htx.2 (((M 7 2) + i_4).toNat) (by omega)
                  have h_44a : t9 (((M 7 2) + i_4).toNat) = t9 (a9 + i_4.toNat) := congrArg t9 (by omega)
                  refine g_aload_nS (n := 92) hx 5 (dq tX7_wordIn 48 rfl) rfl rfl ?_
                  refine g_iload (n := 94) hx 0 (dq tX7_wordIn 49 rfl) rfl rfl ?_
                  refine g_callSt (n := 97) (As := [vI i_3]) (rest := [vI (M (7 + 1) (((M 7 2) + i_4).toNat))]) hx (ctJ0_charAt_5068e2 Γ M w _ hw i_3 (by omega) (by omega)) mlX7_40 rfl hw (dq tX7_wordIn 50 rfl) rfl (Nat.le_of_ble_eq_true rfl) (Nat.le_of_ble_eq_true rfl) (Nat.le_of_ble_eq_true rfl) rfl (fun z_45 M_46 h_47 p_48 => ?_)
                  obtain ⟨rfl, h_49⟩ := p_48
                  have h_49r := sbt_rg0 w (by first | decide | omega) i_3.toNat (by omega)
                  refine g_icmp_ne (n := 100) (t := 107) hx (dq tX7_wordIn 51 rfl) (by decide) rfl (zrI h_43l h_43u (by decide) (by decide)) h_47 (fun c_50 => ?_) (fun c_50 => ?_)
                  · refine g_iconst (n := 108) hx (dq tX7_wordIn 56 rfl) rfl ?_
                    refine g_istore (n := 110) (lv' := [(4, vI (-1)), (5, vI i_3), (3, vI i_5), (2, vI ((M 7 3) - (M 7 2))), (0, aR Γ 7), (1, sR Γ w)]) hx (dq tX7_wordIn 57 rfl) (by decide) rfl rfl ?_
                    refine g_iinc (n := 113) (lv' := [(5, vI (i_3 + 1)), (4, vI (-1)), (3, vI i_5), (2, vI ((M 7 3) - (M 7 2))), (0, aR Γ 7), (1, sR Γ w)]) hx 1 (dq tX7_wordIn 58 rfl) rfl (by decide) rfl rfl ?_
                    refine g_goto (n := 18) hx (dq tX7_wordIn 59 rfl) (by decide) ?_
                    exact ih_7 _ (by omega) (i_3 + 1) (-1) i_5 (by omega) (by omega) (by omega) (by omega) (by omega) (by omega) (WI.step h_10 (by omega) (by omega) (by omega) rfl (by omega)) (by omega) (by omega) (by omega) rfl
                  · refine g_iload (n := 102) hx 1 (dq tX7_wordIn 52 rfl) rfl rfl ?_
                    refine g_iconst (n := 103) hx (dq tX7_wordIn 53 rfl) rfl ?_
                    refine g_iadd (n := 104) hx (dq tX7_wordIn 54 rfl) rfl ?_
                    refine g_goto (n := 108) hx (dq tX7_wordIn 55 rfl) (by decide) ?_
                    refine g_istore (n := 110) (lv' := [(4, vI (i_4 + 1)), (5, vI i_3), (3, vI i_5), (2, vI ((M 7 3) - (M 7 2))), (0, aR Γ 7), (1, sR Γ w)]) hx (dq tX7_wordIn 57 rfl) (by decide) rfl rfl ?_
                    refine g_iinc (n := 113) (lv' := [(5, vI (i_3 + 1)), (4, vI (i_4 + 1)), (3, vI i_5), (2, vI ((M 7 3) - (M 7 2))), (0, aR Γ 7), (1, sR Γ w)]) hx 1 (dq tX7_wordIn 58 rfl) rfl (by decide) rfl rfl ?_
                    refine g_goto (n := 18) hx (dq tX7_wordIn 59 rfl) (by decide) ?_
                    exact ih_7 _ (by omega) (i_3 + 1) (i_4 + 1) i_5 (by omega) (by omega) (by omega) (by omega) (by omega) (by omega) (WI.step h_10 (by omega) (by omega) (by omega) rfl (by omega)) (by omega) (by omega) (by omega) rfl
            · refine g_iload (n := 53) hx 1 (dq tX7_wordIn 27 rfl) rfl rfl ?_
              refine g_iload_n (n := 54) hx 3 (dq tX7_wordIn 28 rfl) rfl rfl ?_
              refine g_icmp_ne (n := 57) (t := 59) hx (dq tX7_wordIn 29 rfl) (by decide) rfl ⟨by omega, by omega⟩ ⟨by omega, by omega⟩ (fun c_51 => ?_) (fun c_51 => ?_)
              · refine g_iinc (n := 62) (lv' := [(3, vI (i_5 + 1)), (5, vI i_3), (4, vI i_4), (2, vI ((M 7 3) - (M 7 2))), (0, aR Γ 7), (1, sR Γ w)]) hx 2 (dq tX7_wordIn 32 rfl) rfl (by decide) rfl rfl ?_
                refine g_iconst (n := 63) hx (dq tX7_wordIn 33 rfl) rfl ?_
                refine g_istore (n := 65) (lv' := [(4, vI 0), (3, vI (i_5 + 1)), (5, vI i_3), (2, vI ((M 7 3) - (M 7 2))), (0, aR Γ 7), (1, sR Γ w)]) hx (dq tX7_wordIn 34 rfl) (by decide) rfl rfl ?_
                refine g_goto (n := 110) hx (dq tX7_wordIn 35 rfl) (by decide) ?_
                refine g_iinc (n := 113) (lv' := [(5, vI (i_3 + 1)), (4, vI 0), (3, vI (i_5 + 1)), (2, vI ((M 7 3) - (M 7 2))), (0, aR Γ 7), (1, sR Γ w)]) hx 2 (dq tX7_wordIn 58 rfl) rfl (by decide) rfl rfl ?_
                refine g_goto (n := 18) hx (dq tX7_wordIn 59 rfl) (by decide) ?_
                exact ih_7 _ (by omega) (i_3 + 1) 0 (i_5 + 1) (by omega) (by omega) (by omega) (by omega) (by omega) (by omega) (WI.next h_10 (by omega) (by omega) (by omega) (by omega) rfl rfl) (by omega) (by omega) (by omega) rfl
              · refine g_iload_n (n := 58) hx 2 (dq tX7_wordIn 30 rfl) rfl rfl ?_
                exact g_iret hx hr (dq tX7_wordIn 31 rfl) ⟨by omega, by omega⟩ ⟨rfl, (WI.ret h_10 (by omega) (by omega) (by omega) (by omega) (by omega))⟩
  exact L_6 _ 0 0 0 (by omega) (by omega) (by omega) (by omega) (by omega) (by omega) WI.nil (by omega) (by omega) (by omega) rfl
