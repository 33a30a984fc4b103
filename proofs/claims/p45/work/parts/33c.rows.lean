abbrev qctX10_answer (M : zM) (w : Int) (from_ : Int) (til : Int) (z : Int64) (M' : zM) : Prop := M = M'
set_option maxHeartbeats 4000000 in
set_option maxRecDepth 100000 in
theorem ctX10_answer (Γ : Gam) (M : zM) (w : Int) (hwl : 0 ≤ w) (hwu : w ≤ 5) (from_ : Int) (hfrom_l : 0 ≤ from_) (hfrom_u : from_ ≤ 300) (til : Int) (htill : 0 ≤ til) (htilu : til ≤ 300) (ex0 : RunOk M w.toNat from_ til) : CtL Γ yX10_answer cX10_answer 8 (some .long) 2 44 [aR Γ 229, vI w, vI from_, vI til] M (qctX10_answer M w from_ til) := by
  refine met_l (by decide) (Nat.le_of_ble_eq_true rfl) (fun x hx hr => ?_)
  show G Γ x 8 (QL Γ x (qctX10_answer M w from_ til)) M 0 [(0, aR Γ 229), (1, vI w), (2, vI from_), (3, vI til)] []
  refine g_iconst (n := 1) hx (dq tX10_answer 0 rfl) rfl ?_
  refine g_istore (n := 3) (lv' := [(4, vI 0), (0, aR Γ 229), (1, vI w), (2, vI from_), (3, vI til)]) hx (dq tX10_answer 1 rfl) (by decide) rfl rfl ?_
  refine g_iload_n (n := 4) hx 3 (dq tX10_answer 2 rfl) rfl rfl ?_
  refine g_istore (n := 6) (lv' := [(5, vI from_), (4, vI 0), (0, aR Γ 229), (1, vI w), (2, vI from_), (3, vI til)]) hx (dq tX10_answer 3 rfl) (by decide) rfl rfl ?_
  have L_3 : ∀ (n_ : Nat) (i_1 : Int) (i_2 : Int), (0 ≤ i_1) → (i_1 ≤ 300) → (0 ≤ i_2) → (i_2 ≤ 300) → (Pf M w from_ i_1 i_2) → ((300 - i_1).toNat = n_) → G Γ x 8 (QL Γ x (qctX10_answer M w from_ til)) M 6 [(5, vI i_1), (4, vI i_2), (0, aR Γ 229), (1, vI w), (2, vI from_), (3, vI til)] [] := by
    intro n_
    induction n_ using Nat.strongRecOn with
    | _ n_ ih_4 =>
      intro i_1 i_2 h_8 h_9 h_10 h_11 h_7 hm_6
      refine g_iload (n := 8) hx 0 (dq tX10_answer 4 rfl) rfl rfl ?_
      refine g_iload_n (n := 9) hx 5 (dq tX10_answer 5 rfl) rfl rfl ?_
      refine g_icmp_ge (n := 12) (t := 153) hx (dq tX10_answer 6 rfl) (by decide) rfl ⟨by omega, by omega⟩ (zrI htill htilu (by decide) (by decide)) (fun c_12 => ?_) (fun c_12 => ?_)
      · refine g_aload_n (n := 154) hx 2 (dq tX10_answer 84 rfl) rfl rfl ?_
        refine g_getR (n := 157) hx glX10_154 (sX10_58 (by decide)) (dq tX10_answer 85 rfl) rfl ?_
        refine g_iconst (n := 158) hx (dq tX10_answer 86 rfl) rfl ?_
        refine g_lald (n := 159) hx (aX10_58 (b := 229) (by decide)) (dq tX10_answer 87 rfl) rfl (by decide) (by decide) (by decide) (fun w_13 => ?_)
        exact g_lret (v := w_13) hx hr (dq tX10_answer 88 rfl) rfl
      · refine g_aload_n (n := 13) hx 2 (dq tX10_answer 7 rfl) rfl rfl ?_
        refine g_getR (n := 16) hx glX10_126 (sX10_49 (by decide)) (dq tX10_answer 8 rfl) rfl ?_
        refine g_sipush (n := 19) hx (dq tX10_answer 9 rfl) rfl (by decide) ?_
        refine g_iload_n (n := 20) hx 3 (dq tX10_answer 10 rfl) rfl rfl ?_
        refine g_imul (n := 21) hx (dq tX10_answer 11 rfl) rfl ?_
        refine g_iload (n := 23) hx 0 (dq tX10_answer 12 rfl) rfl rfl ?_
        refine g_iadd (n := 24) hx (dq tX10_answer 13 rfl) rfl ?_
        refine g_iald (n := 25) (q := ((300 * w) + i_1).toNat) hx (aX10_49 (b := 229) (by decide)) (dq tX10_answer 14 rfl) rfl (by omega) (by omega) (by omega) rfl (fun h_14l h_14u => ?_)
        have e_15 : (((300 * w) + i_1).toNat) = 300 * w.toNat + i_1.toNat := by omega
        obtain ⟨s_160, s_161, s_169, s_162, s_16n, s_16k⟩ := Pf.step ex0 h_7 (by omega) (((300 * w) + i_1).toNat) e_15
        refine g_istore (n := 27) (lv' := [(6, vI (M (229 + 38) (((300 * w) + i_1).toNat))), (5, vI i_1), (4, vI i_2), (0, aR Γ 229), (1, vI w), (2, vI from_), (3, vI til)]) hx (dq tX10_answer 15 rfl) (by decide) rfl rfl ?_
        refine g_aload_n (n := 28) hx 3 (dq tX10_answer 16 rfl) rfl rfl ?_
        refine g_getR (n := 31) hx glX10_129 (sX10_50 (by decide)) (dq tX10_answer 17 rfl) rfl ?_
        refine g_sipush (n := 34) hx (dq tX10_answer 18 rfl) rfl (by decide) ?_
        refine g_iload_n (n := 35) hx 4 (dq tX10_answer 19 rfl) rfl rfl ?_
        refine g_imul (n := 36) hx (dq tX10_answer 20 rfl) rfl ?_
        refine g_iload (n := 38) hx 1 (dq tX10_answer 21 rfl) rfl rfl ?_
        refine g_iadd (n := 39) hx (dq tX10_answer 22 rfl) rfl ?_
        refine g_iald (n := 40) (q := ((300 * w) + i_1).toNat) hx (aX10_50 (b := 229) (by decide)) (dq tX10_answer 23 rfl) rfl (by omega) (by omega) (by omega) rfl (fun h_17l h_17u => ?_)
        refine g_istore (n := 42) (lv' := [(7, vI (M (229 + 39) (((300 * w) + i_1).toNat))), (6, vI (M (229 + 38) (((300 * w) + i_1).toNat))), (5, vI i_1), (4, vI i_2), (0, aR Γ 229), (1, vI w), (2, vI from_), (3, vI til)]) hx (dq tX10_answer 24 rfl) (by decide) rfl rfl ?_
        refine g_iload (n := 44) hx 1 (dq tX10_answer 25 rfl) rfl rfl ?_
        refine g_if_eq (n := 47) (t := 53) hx (dq tX10_answer 26 rfl) (by decide) rfl (zrI h_14l h_14u (by decide) (by decide)) (fun c_18 => ?_) (fun c_18 => ?_)
        · refine g_aload_n (n := 54) hx 4 (dq tX10_answer 30 rfl) rfl rfl ?_
          refine g_getR (n := 57) hx glX10_154 (sX10_58 (by decide)) (dq tX10_answer 31 rfl) rfl ?_
          refine g_iload (n := 59) hx 3 (dq tX10_answer 32 rfl) rfl rfl ?_
          refine g_iload (n := 61) hx 1 (dq tX10_answer 33 rfl) rfl rfl ?_
          refine g_if_ne (n := 64) (t := 70) hx (dq tX10_answer 34 rfl) (by decide) rfl (zrI h_14l h_14u (by decide) (by decide)) (fun c_19 => ?_) (fun c_19 => ?_)
          · omega
          · refine g_iload (n := 66) hx 0 (dq tX10_answer 35 rfl) rfl rfl ?_
            refine g_i2l (n := 67) hx (dq tX10_answer 36 rfl) rfl (zrI h_17l h_17u (by decide) (by decide)) ?_
            refine g_goto (n := 77) hx (dq tX10_answer 37 rfl) (by decide) ?_
            refine g_last (n := 78) hx (aX10_58 (b := 229) (by decide)) (dq tX10_answer 42 rfl) rfl (by omega) (by omega) (by omega) ?_
            refine g_iinc (n := 81) (lv' := [(4, vI (i_2 + 1)), (7, vI (M (229 + 39) (((300 * w) + i_1).toNat))), (6, vI (M (229 + 38) (((300 * w) + i_1).toNat))), (5, vI i_1), (0, aR Γ 229), (1, vI w), (2, vI from_), (3, vI til)]) hx 3 (dq tX10_answer 43 rfl) rfl (by decide) rfl rfl ?_
            refine g_goto (n := 147) hx (dq tX10_answer 44 rfl) (by decide) ?_
            refine g_iinc (n := 150) (lv' := [(5, vI (i_1 + 1)), (4, vI (i_2 + 1)), (7, vI (M (229 + 39) (((300 * w) + i_1).toNat))), (6, vI (M (229 + 38) (((300 * w) + i_1).toNat))), (0, aR Γ 229), (1, vI w), (2, vI from_), (3, vI til)]) hx 3 (dq tX10_answer 82 rfl) rfl (by decide) rfl rfl ?_
            refine g_goto (n := 6) hx (dq tX10_answer 83 rfl) (by decide) ?_
            refine g_lv [0, 1, 4, 5, 6, 7] rfl ?_
            exact ih_4 _ (by omega) (i_1 + 1) (i_2 + 1) (by omega) (by omega) (by omega) (by omega) (Pf.go ex0 h_7 (by omega) (((300 * w) + i_1).toNat) e_15 rfl (by omega)) rfl
        · refine g_iload (n := 49) hx 1 (dq tX10_answer 27 rfl) rfl rfl ?_
          refine g_iconst (n := 50) hx (dq tX10_answer 28 rfl) rfl ?_
          refine g_icmp_ne (n := 53) (t := 84) hx (dq tX10_answer 29 rfl) (by decide) rfl (zrI h_14l h_14u (by decide) (by decide)) ⟨by decide, by decide⟩ (fun c_20 => ?_) (fun c_20 => ?_)
          · refine g_iload (n := 86) hx 1 (dq tX10_answer 45 rfl) rfl rfl ?_
            refine g_bipush (n := 88) hx (dq tX10_answer 46 rfl) rfl (by decide) ?_
            refine g_icmp_ne (n := 91) (t := 114) hx (dq tX10_answer 47 rfl) (by decide) rfl (zrI h_14l h_14u (by decide) (by decide)) ⟨by decide, by decide⟩ (fun c_21 => ?_) (fun c_21 => ?_)
            · refine g_iinc (n := 117) (lv' := [(4, vI (i_2 + (-1))), (7, vI (M (229 + 39) (((300 * w) + i_1).toNat))), (6, vI (M (229 + 38) (((300 * w) + i_1).toNat))), (5, vI i_1), (0, aR Γ 229), (1, vI w), (2, vI from_), (3, vI til)]) hx 3 (dq tX10_answer 63 rfl) rfl (by decide) rfl rfl ?_
              refine g_aload_n (n := 118) hx 4 (dq tX10_answer 64 rfl) rfl rfl ?_
              refine g_getR (n := 121) hx glX10_154 (sX10_58 (by decide)) (dq tX10_answer 65 rfl) rfl ?_
              refine g_iload (n := 123) hx 0 (dq tX10_answer 66 rfl) rfl rfl ?_
              refine g_iconst (n := 124) hx (dq tX10_answer 67 rfl) rfl ?_
              refine g_isub (n := 125) hx (dq tX10_answer 68 rfl) rfl ?_
              refine g_iload (n := 127) hx 2 (dq tX10_answer 69 rfl) rfl rfl ?_
              refine g_aload_n (n := 128) hx 4 (dq tX10_answer 70 rfl) rfl rfl ?_
              refine g_getR (n := 131) hx glX10_154 (sX10_58 (by decide)) (dq tX10_answer 71 rfl) rfl ?_
              refine g_iload (n := 133) hx 0 (dq tX10_answer 72 rfl) rfl rfl ?_
              refine g_iconst (n := 134) hx (dq tX10_answer 73 rfl) rfl ?_
              refine g_isub (n := 135) hx (dq tX10_answer 74 rfl) rfl ?_
              refine g_lald (n := 136) hx (aX10_58 (b := 229) (by decide)) (dq tX10_answer 75 rfl) rfl (by omega) (by omega) (by omega) (fun w_22 => ?_)
              refine g_aload_n (n := 137) hx 4 (dq tX10_answer 76 rfl) rfl rfl ?_
              refine g_getR (n := 140) hx glX10_154 (sX10_58 (by decide)) (dq tX10_answer 77 rfl) rfl ?_
              refine g_iload (n := 142) hx 0 (dq tX10_answer 78 rfl) rfl rfl ?_
              refine g_lald (n := 143) hx (aX10_58 (b := 229) (by decide)) (dq tX10_answer 79 rfl) rfl (by omega) (by omega) (by omega) (fun w_23 => ?_)
              refine g_callSl (n := 146) (As := [vI (M (229 + 38) (((300 * w) + i_1).toNat)), .long w_22, .long w_23]) (rest := [vI ((i_2 + (-1)) - 1), aR Γ (229 + 47)]) hx (ctX10_both Γ M (M (229 + 38) (((300 * w) + i_1).toNat)) (by omega) (by omega) w_22 w_23) mlX10_444 (dq tX10_answer 80 rfl) rfl (Nat.le_of_ble_eq_true rfl) (Nat.le_of_ble_eq_true rfl) (Nat.le_of_ble_eq_true rfl) rfl (fun z_24 M_25 p_27 => ?_)
              obtain rfl := p_27
              refine g_last (n := 147) hx (aX10_58 (b := 229) (by decide)) (dq tX10_answer 81 rfl) rfl (by omega) (by omega) (by omega) ?_
              refine g_iinc (n := 150) (lv' := [(5, vI (i_1 + 1)), (4, vI (i_2 + (-1))), (7, vI (M (229 + 39) (((300 * w) + i_1).toNat))), (6, vI (M (229 + 38) (((300 * w) + i_1).toNat))), (0, aR Γ 229), (1, vI w), (2, vI from_), (3, vI til)]) hx 3 (dq tX10_answer 82 rfl) rfl (by decide) rfl rfl ?_
              refine g_goto (n := 6) hx (dq tX10_answer 83 rfl) (by decide) ?_
              refine g_lv [0, 1, 4, 5, 6, 7] rfl ?_
              exact ih_4 _ (by omega) (i_1 + 1) (i_2 + (-1)) (by omega) (by omega) (by omega) (by omega) (Pf.go ex0 h_7 (by omega) (((300 * w) + i_1).toNat) e_15 rfl (by omega)) rfl
            · refine g_aload_n (n := 92) hx 4 (dq tX10_answer 48 rfl) rfl rfl ?_
              refine g_getR (n := 95) hx glX10_154 (sX10_58 (by decide)) (dq tX10_answer 49 rfl) rfl ?_
              refine g_iload (n := 97) hx 3 (dq tX10_answer 50 rfl) rfl rfl ?_
              refine g_iconst (n := 98) hx (dq tX10_answer 51 rfl) rfl ?_
              refine g_isub (n := 99) hx (dq tX10_answer 52 rfl) rfl ?_
              refine g_lconst (n := 100) (z := 1) hx (dq tX10_answer 53 rfl) rfl (by decide) ?_
              refine g_aload_n (n := 101) hx 4 (dq tX10_answer 54 rfl) rfl rfl ?_
              refine g_getR (n := 104) hx glX10_154 (sX10_58 (by decide)) (dq tX10_answer 55 rfl) rfl ?_
              refine g_iload (n := 106) hx 3 (dq tX10_answer 56 rfl) rfl rfl ?_
              refine g_iconst (n := 107) hx (dq tX10_answer 57 rfl) rfl ?_
              refine g_isub (n := 108) hx (dq tX10_answer 58 rfl) rfl ?_
              refine g_lald (n := 109) hx (aX10_58 (b := 229) (by decide)) (dq tX10_answer 59 rfl) rfl (by omega) (by omega) (by omega) (fun w_29 => ?_)
              refine g_lsub (n := 110) hx (dq tX10_answer 60 rfl) rfl (fun w_30 => ?_)
              refine g_last (n := 111) hx (aX10_58 (b := 229) (by decide)) (dq tX10_answer 61 rfl) rfl (by omega) (by omega) (by omega) ?_
              refine g_goto (n := 147) hx (dq tX10_answer 62 rfl) (by decide) ?_
              refine g_iinc (n := 150) (lv' := [(5, vI (i_1 + 1)), (7, vI (M (229 + 39) (((300 * w) + i_1).toNat))), (6, vI (M (229 + 38) (((300 * w) + i_1).toNat))), (4, vI i_2), (0, aR Γ 229), (1, vI w), (2, vI from_), (3, vI til)]) hx 2 (dq tX10_answer 82 rfl) rfl (by decide) rfl rfl ?_
              refine g_goto (n := 6) hx (dq tX10_answer 83 rfl) (by decide) ?_
              refine g_lv [0, 3, 4, 5, 6, 7] rfl ?_
              exact ih_4 _ (by omega) (i_1 + 1) i_2 (by omega) (by omega) (by omega) (by omega) (Pf.go ex0 h_7 (by omega) (((300 * w) + i_1).toNat) e_15 rfl (by omega)) rfl
          · refine g_aload_n (n := 54) hx 4 (dq tX10_answer 30 rfl) rfl rfl ?_
            refine g_getR (n := 57) hx glX10_154 (sX10_58 (by decide)) (dq tX10_answer 31 rfl) rfl ?_
            refine g_iload (n := 59) hx 3 (dq tX10_answer 32 rfl) rfl rfl ?_
            refine g_iload (n := 61) hx 1 (dq tX10_answer 33 rfl) rfl rfl ?_
            refine g_if_ne (n := 64) (t := 70) hx (dq tX10_answer 34 rfl) (by decide) rfl (zrI h_14l h_14u (by decide) (by decide)) (fun c_31 => ?_) (fun c_31 => ?_)
            · refine g_aload_n (n := 71) hx 4 (dq tX10_answer 38 rfl) rfl rfl ?_
              refine g_getR (n := 74) hx glX10_150 (sX10_57 (by decide)) (dq tX10_answer 39 rfl) rfl ?_
              refine g_iload (n := 76) hx 0 (dq tX10_answer 40 rfl) rfl rfl ?_
              refine g_lald (n := 77) hx (aX10_57 (b := 229) (by decide)) (dq tX10_answer 41 rfl) rfl (by omega) (by omega) (by omega) (fun w_32 => ?_)
              refine g_last (n := 78) hx (aX10_58 (b := 229) (by decide)) (dq tX10_answer 42 rfl) rfl (by omega) (by omega) (by omega) ?_
              refine g_iinc (n := 81) (lv' := [(4, vI (i_2 + 1)), (7, vI (M (229 + 39) (((300 * w) + i_1).toNat))), (6, vI (M (229 + 38) (((300 * w) + i_1).toNat))), (5, vI i_1), (0, aR Γ 229), (1, vI w), (2, vI from_), (3, vI til)]) hx 3 (dq tX10_answer 43 rfl) rfl (by decide) rfl rfl ?_
              refine g_goto (n := 147) hx (dq tX10_answer 44 rfl) (by decide) ?_
              refine g_iinc (n := 150) (lv' := [(5, vI (i_1 + 1)), (4, vI (i_2 + 1)), (7, vI (M (229 + 39) (((300 * w) + i_1).toNat))), (6, vI (M (229 + 38) (((300 * w) + i_1).toNat))), (0, aR Γ 229), (1, vI w), (2, vI from_), (3, vI til)]) hx 3 (dq tX10_answer 82 rfl) rfl (by decide) rfl rfl ?_
              refine g_goto (n := 6) hx (dq tX10_answer 83 rfl) (by decide) ?_
              refine g_lv [0, 1, 4, 5, 6, 7] rfl ?_
              exact ih_4 _ (by omega) (i_1 + 1) (i_2 + 1) (by omega) (by omega) (by omega) (by omega) (Pf.go ex0 h_7 (by omega) (((300 * w) + i_1).toNat) e_15 rfl (by omega)) rfl
            · omega
  exact L_3 _ from_ 0 (by omega) (by omega) (by omega) (by omega) (Pf.nil (by omega)) rfl

abbrev qctX10_holds (M : zM) (r : Int) (c : Int) (z : Int) (M' : zM) : Prop := M = M' ∧ (z = 0 ∨ (z = 1))
set_option maxHeartbeats 4000000 in
set_option maxRecDepth 100000 in
theorem ctX10_holds (Γ : Gam) (M : zM) (r : Int) (hrl : 0 ≤ r) (hru : r ≤ 5) (c : Int) (hcl : 0 ≤ c) (hcu : c ≤ 71) (ex0 : RunOk M r.toNat (M (229 + 43) c.toNat) (M (229 + 44) c.toNat)) : CtI Γ yX10_holds cX10_holds 3 (some .boolean) 3 71 [aR Γ 229, vI r, vI c] M (qctX10_holds M r c) := by
  refine met_i (by decide) (Nat.le_of_ble_eq_true rfl) (fun x hx hr => ?_)
  show G Γ x 3 (QI Γ x (qctX10_holds M r c)) M 0 [(0, aR Γ 229), (1, vI r), (2, vI c)] []
  refine g_aload_n (n := 1) hx 0 (dq tX10_holds 0 rfl) rfl rfl ?_
  refine g_getR (n := 4) hx glX10_141 (sX10_54 (by decide)) (dq tX10_holds 1 rfl) rfl ?_
  refine g_iload_n (n := 5) hx 2 (dq tX10_holds 2 rfl) rfl rfl ?_
  refine g_iald (n := 6) (q := c.toNat) hx (aX10_54 (b := 229) (by decide)) (dq tX10_holds 3 rfl) rfl (by omega) (by omega) (by omega) rfl (fun h_1l h_1u => ?_)
  refine g_aload_n (n := 7) hx 0 (dq tX10_holds 4 rfl) rfl rfl ?_
  refine g_getR (n := 10) hx glX10_144 (sX10_55 (by decide)) (dq tX10_holds 5 rfl) rfl ?_
  refine g_iload_n (n := 11) hx 2 (dq tX10_holds 6 rfl) rfl rfl ?_
  refine g_iald (n := 12) (q := c.toNat) hx (aX10_55 (b := 229) (by decide)) (dq tX10_holds 7 rfl) rfl (by omega) (by omega) (by omega) rfl (fun h_2l h_2u => ?_)
  refine g_icmp_eq (n := 15) (t := 37) hx (dq tX10_holds 8 rfl) (by decide) rfl (zrI h_1l h_1u (by decide) (by decide)) (zrI h_2l h_2u (by decide) (by decide)) (fun c_3 => ?_) (fun c_3 => ?_)
  · refine g_iconst (n := 38) hx (dq tX10_holds 23 rfl) rfl ?_
    refine g_goto (n := 42) hx (dq tX10_holds 24 rfl) (by decide) ?_
    exact g_zret hx hr (dq tX10_holds 26 rfl) (by omega) ⟨rfl, (by omega)⟩
  · refine g_aload_n (n := 16) hx 0 (dq tX10_holds 9 rfl) rfl rfl ?_
    refine g_iload_n (n := 17) hx 1 (dq tX10_holds 10 rfl) rfl rfl ?_
    refine g_aload_n (n := 18) hx 0 (dq tX10_holds 11 rfl) rfl rfl ?_
    refine g_getR (n := 21) hx glX10_141 (sX10_54 (by decide)) (dq tX10_holds 12 rfl) rfl ?_
    refine g_iload_n (n := 22) hx 2 (dq tX10_holds 13 rfl) rfl rfl ?_
    refine g_iald (n := 23) (q := c.toNat) hx (aX10_54 (b := 229) (by decide)) (dq tX10_holds 14 rfl) rfl (by omega) (by omega) (by omega) rfl (fun h_4l h_4u => ?_)
    refine g_aload_n (n := 24) hx 0 (dq tX10_holds 15 rfl) rfl rfl ?_
    refine g_getR (n := 27) hx glX10_144 (sX10_55 (by decide)) (dq tX10_holds 16 rfl) rfl ?_
    refine g_iload_n (n := 28) hx 2 (dq tX10_holds 17 rfl) rfl rfl ?_
    refine g_iald (n := 29) (q := c.toNat) hx (aX10_55 (b := 229) (by decide)) (dq tX10_holds 18 rfl) rfl (by omega) (by omega) (by omega) rfl (fun h_5l h_5u => ?_)
    refine g_callVl (n := 32) (As := [vI r, vI (M (229 + 43) c.toNat), vI (M (229 + 44) c.toNat)]) (rest := []) hx (ctX10_answer Γ M r (by omega) (by omega) (M (229 + 43) c.toNat) (by omega) (by omega) (M (229 + 44) c.toNat) (by omega) (by omega) ex0) mlX10_433 (obX10 (by decide)) (dq tX10_holds 19 rfl) rfl (Nat.le_of_ble_eq_true rfl) (Nat.le_of_ble_eq_true rfl) (Nat.le_of_ble_eq_true rfl) rfl (fun z_6 M_7 p_9 => ?_)
    obtain rfl := p_9
    refine g_lconst (n := 33) (z := 1) hx (dq tX10_holds 20 rfl) rfl (by decide) ?_
    refine g_lcmpU (n := 34) hx (dq tX10_holds 21 rfl) rfl (fun z_11 h_121 h_122 h_123 h_124 => ?_)
    refine g_if_ne (n := 37) (t := 41) hx (dq tX10_holds 22 rfl) (by decide) rfl ⟨by omega, by omega⟩ (fun c_13 => ?_) (fun c_13 => ?_)
    · refine g_iconst (n := 42) hx (dq tX10_holds 25 rfl) rfl ?_
      exact g_zret hx hr (dq tX10_holds 26 rfl) (by omega) ⟨rfl, (by omega)⟩
    · refine g_iconst (n := 38) hx (dq tX10_holds 23 rfl) rfl ?_
      refine g_goto (n := 42) hx (dq tX10_holds 24 rfl) (by decide) ?_
      exact g_zret hx hr (dq tX10_holds 26 rfl) (by omega) ⟨rfl, (by omega)⟩

abbrev qctX10_firstClause (M : zM) (r : Int) (act : Int) (z : Int) (M' : zM) : Prop := M = M' ∧ (-1) ≤ z ∧ z ≤ 71 ∧ (z = -1 ∨ (12 * r ≤ z ∧ z < 12 * r + M (229 + 40) r.toNat))
set_option maxHeartbeats 4000000 in
set_option maxRecDepth 100000 in
theorem ctX10_firstClause (Γ : Gam) (M : zM) (r : Int) (hrl : 0 ≤ r) (hru : r ≤ 5) (act : Int) (hactl : (-2147483648) ≤ act) (hactu : act ≤ 2147483647) (pre0 : r < M 229 41) (rl : Rl M) : CtI Γ yX10_firstClause cX10_firstClause 4 (some .int) 4 93 [aR Γ 229, vI r, vI act] M (qctX10_firstClause M r act) := by
  refine met_i (by decide) (Nat.le_of_ble_eq_true rfl) (fun x hx hr => ?_)
  show G Γ x 4 (QI Γ x (qctX10_firstClause M r act)) M 0 [(0, aR Γ 229), (1, vI r), (2, vI act)] []
  refine g_bipush (n := 2) hx (dq tX10_firstClause 0 rfl) rfl (by decide) ?_
  refine g_iload_n (n := 3) hx 1 (dq tX10_firstClause 1 rfl) rfl rfl ?_
  refine g_imul (n := 4) hx (dq tX10_firstClause 2 rfl) rfl ?_
  refine g_istore_n (n := 5) (lv' := [(3, vI (12 * r)), (0, aR Γ 229), (1, vI r), (2, vI act)]) hx (dq tX10_firstClause 3 rfl) (by decide) rfl rfl ?_
  have L_2 : ∀ (n_ : Nat) (i_1 : Int), (0 ≤ i_1) → (i_1 ≤ 72) → (12 * r ≤ i_1) → ((72 - i_1).toNat = n_) → G Γ x 4 (QI Γ x (qctX10_firstClause M r act)) M 5 [(3, vI i_1), (0, aR Γ 229), (1, vI r), (2, vI act)] [] := by
    intro n_
    induction n_ using Nat.strongRecOn with
    | _ n_ ih_3 =>
      intro i_1 h_7 h_8 h_6 hm_5
      refine g_iload_n (n := 6) hx 0 (dq tX10_firstClause 4 rfl) rfl rfl ?_
      refine g_bipush (n := 8) hx (dq tX10_firstClause 5 rfl) rfl (by decide) ?_
      refine g_iload_n (n := 9) hx 2 (dq tX10_firstClause 6 rfl) rfl rfl ?_
      refine g_imul (n := 10) hx (dq tX10_firstClause 7 rfl) rfl ?_
      refine g_aload_n (n := 11) hx 1 (dq tX10_firstClause 8 rfl) rfl rfl ?_
      refine g_getR (n := 14) hx glX10_132 (sX10_51 (by decide)) (dq tX10_firstClause 9 rfl) rfl ?_
      refine g_iload_n (n := 15) hx 2 (dq tX10_firstClause 10 rfl) rfl rfl ?_
      refine g_iald (n := 16) (q := r.toNat) hx (aX10_51 (b := 229) (by decide)) (dq tX10_firstClause 11 rfl) rfl (by omega) (by omega) (by omega) rfl (fun h_9l h_9u => ?_)
      have h_10 := Rl.many rl r (by omega) (by omega)
      refine g_iadd (n := 17) hx (dq tX10_firstClause 12 rfl) rfl ?_
      refine g_icmp_ge (n := 20) (t := 47) hx (dq tX10_firstClause 13 rfl) (by decide) rfl ⟨by omega, by omega⟩ ⟨by omega, by omega⟩ (fun c_11 => ?_) (fun c_11 => ?_)
      · refine g_iconst (n := 48) hx (dq tX10_firstClause 29 rfl) rfl ?_
        exact g_iret hx hr (dq tX10_firstClause 30 rfl) ⟨by decide, by decide⟩ ⟨rfl, (by omega), (by omega), (by omega)⟩
      · refine g_aload_n (n := 21) hx 1 (dq tX10_firstClause 14 rfl) rfl rfl ?_
        refine g_getR (n := 24) hx glX10_135 (sX10_52 (by decide)) (dq tX10_firstClause 15 rfl) rfl ?_
        refine g_iload_n (n := 25) hx 0 (dq tX10_firstClause 16 rfl) rfl rfl ?_
        refine g_iald (n := 26) (q := i_1.toNat) hx (aX10_52 (b := 229) (by decide)) (dq tX10_firstClause 17 rfl) rfl (by omega) (by omega) (by omega) rfl (fun h_12l h_12u => ?_)
        refine g_iload_n (n := 27) hx 3 (dq tX10_firstClause 18 rfl) rfl rfl ?_
        refine g_icmp_ne (n := 30) (t := 41) hx (dq tX10_firstClause 19 rfl) (by decide) rfl (zrI h_12l h_12u (by decide) (by decide)) (zrI hactl hactu (by decide) (by decide)) (fun c_13 => ?_) (fun c_13 => ?_)
        · refine g_iinc (n := 44) (lv' := [(3, vI (i_1 + 1)), (0, aR Γ 229), (1, vI r), (2, vI act)]) hx 0 (dq tX10_firstClause 27 rfl) rfl (by decide) rfl rfl ?_
          refine g_goto (n := 5) hx (dq tX10_firstClause 28 rfl) (by decide) ?_
          exact ih_3 _ (by omega) (i_1 + 1) (by omega) (by omega) (by first | assumption | omega) rfl
        · refine g_aload_n (n := 31) hx 1 (dq tX10_firstClause 20 rfl) rfl rfl ?_
          refine g_iload_n (n := 32) hx 2 (dq tX10_firstClause 21 rfl) rfl rfl ?_
          refine g_iload_n (n := 33) hx 0 (dq tX10_firstClause 22 rfl) rfl rfl ?_
          refine g_callVi (n := 36) (As := [vI r, vI i_1]) (rest := []) hx (ctX10_holds Γ M r (by omega) (by omega) i_1 (by omega) (by omega) (Rl.test rl r i_1 (by omega) (by omega) (by omega) (by omega))) mlX10_437 (obX10 (by decide)) (dq tX10_firstClause 23 rfl) rfl (Nat.le_of_ble_eq_true rfl) (Nat.le_of_ble_eq_true rfl) (Nat.le_of_ble_eq_true rfl) rfl (fun z_14 M_15 h_16 p_17 => ?_)
          obtain ⟨rfl, b_19⟩ := p_17
          refine g_if_eq (n := 39) (t := 41) hx (dq tX10_firstClause 24 rfl) (by decide) rfl h_16 (fun c_20 => ?_) (fun c_20 => ?_)
          · clear b_19
            refine g_iinc (n := 44) (lv' := [(3, vI (i_1 + 1)), (0, aR Γ 229), (1, vI r), (2, vI act)]) hx 0 (dq tX10_firstClause 27 rfl) rfl (by decide) rfl rfl ?_
            refine g_goto (n := 5) hx (dq tX10_firstClause 28 rfl) (by decide) ?_
            exact ih_3 _ (by omega) (i_1 + 1) (by omega) (by omega) (by first | assumption | omega) rfl
          · have b_19 := b_19.resolve_left c_20
            refine g_iload_n (n := 40) hx 0 (dq tX10_firstClause 25 rfl) rfl rfl ?_
            exact g_iret hx hr (dq tX10_firstClause 26 rfl) ⟨by omega, by omega⟩ ⟨rfl, (by omega), (by omega), (by omega)⟩
  exact L_2 _ (12 * r) (by omega) (by omega) (by first | assumption | omega) rfl

abbrev qctX10_firstOf5 (M : zM) (l : Int) (z : Int) (M' : zM) : Prop := M = M' ∧ (-1) ≤ z ∧ z ≤ 5
set_option maxHeartbeats 4000000 in
set_option maxRecDepth 100000 in
theorem ctX10_firstOf5 (Γ : Gam) (M : zM) (l : Int) (hll : 0 ≤ l) (hlu : l ≤ 11) (pre0 : l < M (229 + 1) 3) (gm : Gm M) : CtI Γ yX10_firstOf cX10_firstOf 2 (some .int) 0 0 [aR Γ 229, vI l] M (qctX10_firstOf5 M l) := by
  refine met_i (by decide) (Nat.le_of_ble_eq_true rfl) (fun x hx hr => ?_)
  show G Γ x 2 (QI Γ x (qctX10_firstOf5 M l)) M 0 [(0, aR Γ 229), (1, vI l)] []
  refine g_aload_n (n := 1) hx 0 (dq tX10_firstOf 0 rfl) rfl rfl ?_
  refine g_getR (n := 4) hx glX10_46 (sX10_13 (by decide)) (dq tX10_firstOf 1 rfl) rfl ?_
  refine g_iload_n (n := 5) hx 1 (dq tX10_firstOf 2 rfl) rfl rfl ?_
  refine g_iald (n := 6) (q := l.toNat) hx (aX10_13 (b := 229) (by decide)) (dq tX10_firstOf 3 rfl) rfl (by omega) (by omega) (by omega) rfl (fun h_1l h_1u => ?_)
  refine g_if_le (n := 9) (t := 21) hx (dq tX10_firstOf 4 rfl) (by decide) rfl (zrI h_1l h_1u (by decide) (by decide)) (fun c_2 => ?_) (fun c_2 => ?_)
  · refine g_iconst (n := 22) hx (dq tX10_firstOf 12 rfl) rfl ?_
    exact g_iret hx hr (dq tX10_firstOf 13 rfl) ⟨by decide, by decide⟩ ⟨rfl, (by omega), (by omega)⟩
  · refine g_aload_n (n := 10) hx 0 (dq tX10_firstOf 5 rfl) rfl rfl ?_
    refine g_getR (n := 13) hx glX10_61 (sX10_18 (by decide)) (dq tX10_firstOf 6 rfl) rfl ?_
    refine g_bipush (n := 15) hx (dq tX10_firstOf 7 rfl) rfl (by decide) ?_
    refine g_iload_n (n := 16) hx 1 (dq tX10_firstOf 8 rfl) rfl rfl ?_
    refine g_imul (n := 17) hx (dq tX10_firstOf 9 rfl) rfl ?_
    refine g_iald (n := 18) (q := (6 * l).toNat) hx (aX10_18 (b := 229) (by decide)) (dq tX10_firstOf 10 rfl) rfl (by omega) (by omega) (by omega) rfl (fun h_3l h_3u => ?_)
    refine g_iv (fun h_5 => ?_)
    have h_5v : (0 : Int) ≤ M (229 + 1) 1 ∧ M (229 + 1) 1 ≤ 6 := h_5 230 1
    have h_5l : (0 : Int) ≤ M (229 + 1) 3 ∧ M (229 + 1) 3 ≤ 12 := h_5 230 3
    clear h_5
    have h_4 := gm.2.2.2.1 ((6 * l).toNat) (by omega)
    refine g_goto (n := 22) hx (dq tX10_firstOf 11 rfl) (by decide) ?_
    exact g_iret hx hr (dq tX10_firstOf 13 rfl) (zrI h_3l h_3u (by decide) (by decide)) ⟨rfl, (by omega), (by omega)⟩

abbrev qctX10_lastOf5 (M : zM) (l : Int) (z : Int) (M' : zM) : Prop := M = M' ∧ (-1) ≤ z ∧ z ≤ 5
set_option maxHeartbeats 4000000 in
set_option maxRecDepth 100000 in
theorem ctX10_lastOf5 (Γ : Gam) (M : zM) (l : Int) (hll : 0 ≤ l) (hlu : l ≤ 11) (pre0 : l < M (229 + 1) 3) (gm : Gm M) : CtI Γ yX10_lastOf cX10_lastOf 2 (some .int) 0 0 [aR Γ 229, vI l] M (qctX10_lastOf5 M l) := by
  refine met_i (by decide) (Nat.le_of_ble_eq_true rfl) (fun x hx hr => ?_)
  show G Γ x 2 (QI Γ x (qctX10_lastOf5 M l)) M 0 [(0, aR Γ 229), (1, vI l)] []
  refine g_aload_n (n := 1) hx 0 (dq tX10_lastOf 0 rfl) rfl rfl ?_
  refine g_getR (n := 4) hx glX10_46 (sX10_13 (by decide)) (dq tX10_lastOf 1 rfl) rfl ?_
  refine g_iload_n (n := 5) hx 1 (dq tX10_lastOf 2 rfl) rfl rfl ?_
  refine g_iald (n := 6) (q := l.toNat) hx (aX10_13 (b := 229) (by decide)) (dq tX10_lastOf 3 rfl) rfl (by omega) (by omega) (by omega) rfl (fun h_1l h_1u => ?_)
  refine g_if_le (n := 9) (t := 30) hx (dq tX10_lastOf 4 rfl) (by decide) rfl (zrI h_1l h_1u (by decide) (by decide)) (fun c_2 => ?_) (fun c_2 => ?_)
  · refine g_iconst (n := 31) hx (dq tX10_lastOf 19 rfl) rfl ?_
    exact g_iret hx hr (dq tX10_lastOf 20 rfl) ⟨by decide, by decide⟩ ⟨rfl, (by omega), (by omega)⟩
  · refine g_aload_n (n := 10) hx 0 (dq tX10_lastOf 5 rfl) rfl rfl ?_
    refine g_getR (n := 13) hx glX10_61 (sX10_18 (by decide)) (dq tX10_lastOf 6 rfl) rfl ?_
    refine g_bipush (n := 15) hx (dq tX10_lastOf 7 rfl) rfl (by decide) ?_
    refine g_iload_n (n := 16) hx 1 (dq tX10_lastOf 8 rfl) rfl rfl ?_
    refine g_imul (n := 17) hx (dq tX10_lastOf 9 rfl) rfl ?_
    refine g_aload_n (n := 18) hx 0 (dq tX10_lastOf 10 rfl) rfl rfl ?_
    refine g_getR (n := 21) hx glX10_46 (sX10_13 (by decide)) (dq tX10_lastOf 11 rfl) rfl ?_
    refine g_iload_n (n := 22) hx 1 (dq tX10_lastOf 12 rfl) rfl rfl ?_
    refine g_iald (n := 23) (q := l.toNat) hx (aX10_13 (b := 229) (by decide)) (dq tX10_lastOf 13 rfl) rfl (by omega) (by omega) (by omega) rfl (fun h_3l h_3u => ?_)
    refine g_iadd (n := 24) hx (dq tX10_lastOf 14 rfl) rfl ?_
    refine g_iconst (n := 25) hx (dq tX10_lastOf 15 rfl) rfl ?_
    refine g_isub (n := 26) hx (dq tX10_lastOf 16 rfl) rfl ?_
    refine g_iald (n := 27) (q := (((6 * l) + (M (229 + 13) l.toNat)) - 1).toNat) hx (aX10_18 (b := 229) (by decide)) (dq tX10_lastOf 17 rfl) rfl (by omega) (by omega) (by omega) rfl (fun h_4l h_4u => ?_)
    refine g_iv (fun h_6 => ?_)
    have h_6v : (0 : Int) ≤ M (229 + 1) 1 ∧ M (229 + 1) 1 ≤ 6 := h_6 230 1
    have h_6l : (0 : Int) ≤ M (229 + 1) 3 ∧ M (229 + 1) 3 ≤ 12 := h_6 230 3
    clear h_6
    have h_5 := gm.2.2.2.1 ((((6 * l) + (M (229 + 13) l.toNat)) - 1).toNat) (by omega)
    refine g_goto (n := 31) hx (dq tX10_lastOf 18 rfl) (by decide) ?_
    exact g_iret hx hr (dq tX10_lastOf 20 rfl) (zrI h_4l h_4u (by decide) (by decide)) ⟨rfl, (by omega), (by omega)⟩

abbrev qctX10_byRule (M : zM) (l : Int) (z : Int) (M' : zM) : Prop := M = M' ∧ (-1) ≤ z ∧ z ≤ 5
set_option maxHeartbeats 4000000 in
set_option maxRecDepth 100000 in
theorem ctX10_byRule (Γ : Gam) (M : zM) (l : Int) (hll : 0 ≤ l) (hlu : l ≤ 11) (pre0 : l < M (229 + 1) 3) (pre1 : M (229 + 1) 5 = 3) (gm : Gm M) (rl : Rl M) : CtI Γ yX10_byRule cX10_byRule 10 (some .int) 5 116 [aR Γ 229, vI l] M (qctX10_byRule M l) := by
  refine met_i (by decide) (Nat.le_of_ble_eq_true rfl) (fun x hx hr => ?_)
  show G Γ x 10 (QI Γ x (qctX10_byRule M l)) M 0 [(0, aR Γ 229), (1, vI l)] []
  have hlw0 := Rl.law rl pre1
  have hlw1 := Rl.lawr rl
  refine g_aload_n (n := 1) hx 0 (dq tX10_byRule 0 rfl) rfl rfl ?_
  refine g_getR (n := 4) hx glX10_9 (sX10_1 (by decide)) (dq tX10_byRule 1 rfl) rfl ?_
  refine g_bipush (n := 6) hx (dq tX10_byRule 2 rfl) rfl (by decide) ?_
  refine g_ialdX (n := 7) (q := 6) hx (aX10_1 (b := 229) (by decide)) (dq tX10_byRule 3 rfl) rfl (by decide) (by decide) (by decide) rfl (fun h_1l h_1u => ?_)
  have h_1l : (-1) ≤ M (229 + 1) 6 := h_1l
  have h_1u : M (229 + 1) 6 ≤ 5 := h_1u
  refine g_istore_n (n := 8) (lv' := [(2, vI (M (229 + 1) 6)), (0, aR Γ 229), (1, vI l)]) hx (dq tX10_byRule 4 rfl) (by decide) rfl rfl ?_
  refine g_iconst (n := 9) hx (dq tX10_byRule 5 rfl) rfl ?_
  refine g_istore_n (n := 10) (lv' := [(3, vI (-1)), (2, vI (M (229 + 1) 6)), (0, aR Γ 229), (1, vI l)]) hx (dq tX10_byRule 6 rfl) (by decide) rfl rfl ?_
  refine g_lconst (n := 11) (z := 0) hx (dq tX10_byRule 7 rfl) rfl (by decide) ?_
  refine g_lstore (n := 13) (lv' := [(4, vL 0), (3, vI (-1)), (2, vI (M (229 + 1) 6)), (0, aR Γ 229), (1, vI l)]) hx (dq tX10_byRule 8 rfl) (by decide) rfl rfl ?_
  refine g_iconst (n := 14) hx (dq tX10_byRule 9 rfl) rfl ?_
  refine g_istore (n := 16) (lv' := [(6, vI 0), (4, vL 0), (3, vI (-1)), (2, vI (M (229 + 1) 6)), (0, aR Γ 229), (1, vI l)]) hx (dq tX10_byRule 10 rfl) (by decide) rfl rfl ?_
  have L_5 : ∀ (n_ : Nat) (i_2 : Int) (i_3 : Int) (i_4 : Int64), (0 ≤ i_2) → (i_2 ≤ 6) → ((-1) ≤ i_3) → (i_3 ≤ 5) → ((6 - i_2).toNat = n_) → G Γ x 10 (QI Γ x (qctX10_byRule M l)) M 16 [(6, vI i_2), (4, .long i_4), (3, vI i_3), (2, vI (M (229 + 1) 6)), (0, aR Γ 229), (1, vI l)] [] := by
    intro n_
    induction n_ using Nat.strongRecOn with
    | _ n_ ih_6 =>
      intro i_2 i_3 i_4 h_9 h_10 h_11 h_12 hm_8
      refine g_iload (n := 18) hx 0 (dq tX10_byRule 11 rfl) rfl rfl ?_
      refine g_aload_n (n := 19) hx 4 (dq tX10_byRule 12 rfl) rfl rfl ?_
      refine g_getR (n := 22) hx glX10_9 (sX10_1 (by decide)) (dq tX10_byRule 13 rfl) rfl ?_
      refine g_iconst (n := 23) hx (dq tX10_byRule 14 rfl) rfl ?_
      refine g_ialdX (n := 24) (q := 1) hx (aX10_1 (b := 229) (by decide)) (dq tX10_byRule 15 rfl) rfl (by decide) (by decide) (by decide) rfl (fun h_13l h_13u => ?_)
      have h_13l : 0 ≤ M (229 + 1) 1 := h_13l
      have h_13u : M (229 + 1) 1 ≤ 6 := h_13u
      refine g_icmp_ge (n := 27) (t := 117) hx (dq tX10_byRule 16 rfl) (by decide) rfl ⟨by omega, by omega⟩ (zrI h_13l h_13u (by decide) (by decide)) (fun c_14 => ?_) (fun c_14 => ?_)
      · refine g_iload_n (n := 118) hx 2 (dq tX10_byRule 66 rfl) rfl rfl ?_
        exact g_iret hx hr (dq tX10_byRule 67 rfl) ⟨by omega, by omega⟩ ⟨rfl, (by omega), (by omega)⟩
      · refine g_aload_n (n := 28) hx 4 (dq tX10_byRule 17 rfl) rfl rfl ?_
        refine g_iload_n (n := 29) hx 5 (dq tX10_byRule 18 rfl) rfl rfl ?_
        refine g_iload (n := 31) hx 0 (dq tX10_byRule 19 rfl) rfl rfl ?_
        refine g_callVi (n := 34) (As := [vI l, vI i_2]) (rest := []) hx (ctX10_notchesOf Γ M l (by omega) (by omega) i_2 (by omega) (by omega)) mlX10_448 (obX10 (by decide)) (dq tX10_byRule 20 rfl) rfl (Nat.le_of_ble_eq_true rfl) (Nat.le_of_ble_eq_true rfl) (Nat.le_of_ble_eq_true rfl) rfl (fun z_15 M_16 h_17 p_18 => ?_)
        obtain rfl := p_18
        refine g_if_le (n := 37) (t := 111) hx (dq tX10_byRule 21 rfl) (by decide) rfl h_17 (fun c_20 => ?_) (fun c_20 => ?_)
        · refine g_iinc (n := 114) (lv' := [(6, vI (i_2 + 1)), (4, .long i_4), (3, vI i_3), (2, vI (M (229 + 1) 6)), (0, aR Γ 229), (1, vI l)]) hx 0 (dq tX10_byRule 64 rfl) rfl (by decide) rfl rfl ?_
          refine g_goto (n := 16) hx (dq tX10_byRule 65 rfl) (by decide) ?_
          exact ih_6 _ (by omega) (i_2 + 1) i_3 i_4 (by omega) (by omega) (by omega) (by omega) rfl
        · refine g_aload_n (n := 38) hx 4 (dq tX10_byRule 22 rfl) rfl rfl ?_
          refine g_iload_n (n := 39) hx 5 (dq tX10_byRule 23 rfl) rfl rfl ?_
          refine g_iload (n := 41) hx 0 (dq tX10_byRule 24 rfl) rfl rfl ?_
          refine g_iconst (n := 42) hx (dq tX10_byRule 25 rfl) rfl ?_
          refine g_iconst (n := 43) hx (dq tX10_byRule 26 rfl) rfl ?_
          refine g_callVv (n := 46) (As := [vI l, vI i_2, vI (-1), vI 0]) (rest := []) hx (ctX10_asks Γ M l (by omega) (by omega) i_2 (by omega) (by omega) (-1) (by decide) (by decide) 0 (by decide) (by decide) (by omega) gm) mlX10_451 (obX10 (by decide)) (dq tX10_byRule 27 rfl) rfl (Nat.le_of_ble_eq_true rfl) (Nat.le_of_ble_eq_true rfl) (Nat.le_of_ble_eq_true rfl) rfl (fun M_22 p_24 => ?_)
          obtain rfl := p_24
          refine g_aload_n (n := 47) hx 4 (dq tX10_byRule 28 rfl) rfl rfl ?_
          refine g_iload_n (n := 48) hx 3 (dq tX10_byRule 29 rfl) rfl rfl ?_
          refine g_iconst (n := 49) hx (dq tX10_byRule 30 rfl) rfl ?_
          refine g_callVi (n := 52) (As := [vI (M (229 + 1) 6), vI 4]) (rest := []) hx (ctX10_firstClause Γ M (M (229 + 1) 6) (by omega) (by omega) 4 (by decide) (by decide) (by omega) rl) mlX10_455 (obX10 (by decide)) (dq tX10_byRule 31 rfl) rfl (Nat.le_of_ble_eq_true rfl) (Nat.le_of_ble_eq_true rfl) (Nat.le_of_ble_eq_true rfl) rfl (fun z_26 M_27 h_28 p_29 => ?_)
          obtain ⟨rfl, h_31, h_32, h_33⟩ := p_29
          refine g_istore (n := 54) (lv' := [(7, vI z_26), (6, vI i_2), (4, .long i_4), (3, vI i_3), (2, vI (M (229 + 1) 6)), (0, aR Γ 229), (1, vI l)]) hx (dq tX10_byRule 32 rfl) (by decide) rfl rfl ?_
          refine g_iload (n := 56) hx 0 (dq tX10_byRule 33 rfl) rfl rfl ?_
          refine g_iconst (n := 57) hx (dq tX10_byRule 34 rfl) rfl ?_
          have J_36 : ∀ (w_35 : Int64),  G Γ x 10 (QI Γ x (qctX10_byRule M l)) M 83 [(7, vI z_26), (6, vI i_2), (4, .long i_4), (3, vI i_3), (2, vI (M (229 + 1) 6)), (0, aR Γ 229), (1, vI l)] [.long w_35] := by
            intro w_35
            refine g_lstore (n := 85) (lv' := [(8, .long w_35), (7, vI z_26), (6, vI i_2), (4, .long i_4), (3, vI i_3), (2, vI (M (229 + 1) 6)), (0, aR Γ 229), (1, vI l)]) hx (dq tX10_byRule 49 rfl) (by decide) rfl rfl ?_
            refine g_iload (n := 87) hx 1 (dq tX10_byRule 50 rfl) rfl rfl ?_
            refine g_iconst (n := 88) hx (dq tX10_byRule 51 rfl) rfl ?_
            refine g_icmp_eq (n := 91) (t := 111) hx (dq tX10_byRule 52 rfl) (by decide) rfl h_28 ⟨by decide, by decide⟩ (fun c_37 => ?_) (fun c_37 => ?_)
            · refine g_iinc (n := 114) (lv' := [(6, vI (i_2 + 1)), (8, .long w_35), (7, vI z_26), (4, .long i_4), (3, vI i_3), (2, vI (M (229 + 1) 6)), (0, aR Γ 229), (1, vI l)]) hx 2 (dq tX10_byRule 64 rfl) rfl (by decide) rfl rfl ?_
              refine g_goto (n := 16) hx (dq tX10_byRule 65 rfl) (by decide) ?_
              refine g_lv [0, 3, 4, 5, 6, 7] rfl ?_
              exact ih_6 _ (by omega) (i_2 + 1) i_3 i_4 (by omega) (by omega) (by omega) (by omega) rfl
            · refine g_iload_n (n := 92) hx 4 (dq tX10_byRule 53 rfl) rfl rfl ?_
              refine g_iconst (n := 93) hx (dq tX10_byRule 54 rfl) rfl ?_
              refine g_icmp_eq (n := 96) (t := 104) hx (dq tX10_byRule 55 rfl) (by decide) rfl ⟨by omega, by omega⟩ ⟨by decide, by decide⟩ (fun c_38 => ?_) (fun c_38 => ?_)
              · refine g_iload (n := 106) hx 2 (dq tX10_byRule 60 rfl) rfl rfl ?_
                refine g_istore_n (n := 107) (lv' := [(3, vI i_2), (8, .long w_35), (7, vI z_26), (6, vI i_2), (4, .long i_4), (2, vI (M (229 + 1) 6)), (0, aR Γ 229), (1, vI l)]) hx (dq tX10_byRule 61 rfl) (by decide) rfl rfl ?_
                refine g_lload (n := 109) hx 1 (dq tX10_byRule 62 rfl) rfl rfl ?_
                refine g_lstore (n := 111) (lv' := [(4, .long w_35), (3, vI i_2), (8, .long w_35), (7, vI z_26), (6, vI i_2), (2, vI (M (229 + 1) 6)), (0, aR Γ 229), (1, vI l)]) hx (dq tX10_byRule 63 rfl) (by decide) rfl rfl ?_
                refine g_iinc (n := 114) (lv' := [(6, vI (i_2 + 1)), (4, .long w_35), (3, vI i_2), (8, .long w_35), (7, vI z_26), (2, vI (M (229 + 1) 6)), (0, aR Γ 229), (1, vI l)]) hx 4 (dq tX10_byRule 64 rfl) rfl (by decide) rfl rfl ?_
                refine g_goto (n := 16) hx (dq tX10_byRule 65 rfl) (by decide) ?_
                refine g_lv [0, 1, 2, 5, 6, 7] rfl ?_
                exact ih_6 _ (by omega) (i_2 + 1) i_2 w_35 (by omega) (by omega) (by omega) (by omega) rfl
              · refine g_lload (n := 98) hx 0 (dq tX10_byRule 56 rfl) rfl rfl ?_
                refine g_lload (n := 100) hx 3 (dq tX10_byRule 57 rfl) rfl rfl ?_
                refine g_lcmpU (n := 101) hx (dq tX10_byRule 58 rfl) rfl (fun z_39 h_401 h_402 h_403 h_404 => ?_)
                refine g_if_le (n := 104) (t := 111) hx (dq tX10_byRule 59 rfl) (by decide) rfl ⟨by omega, by omega⟩ (fun c_41 => ?_) (fun c_41 => ?_)
                · refine g_iinc (n := 114) (lv' := [(6, vI (i_2 + 1)), (8, .long w_35), (7, vI z_26), (4, .long i_4), (3, vI i_3), (2, vI (M (229 + 1) 6)), (0, aR Γ 229), (1, vI l)]) hx 2 (dq tX10_byRule 64 rfl) rfl (by decide) rfl rfl ?_
                  refine g_goto (n := 16) hx (dq tX10_byRule 65 rfl) (by decide) ?_
                  refine g_lv [0, 3, 4, 5, 6, 7] rfl ?_
                  exact ih_6 _ (by omega) (i_2 + 1) i_3 i_4 (by omega) (by omega) (by omega) (by omega) rfl
                · refine g_iload (n := 106) hx 2 (dq tX10_byRule 60 rfl) rfl rfl ?_
                  refine g_istore_n (n := 107) (lv' := [(3, vI i_2), (8, .long w_35), (7, vI z_26), (6, vI i_2), (4, .long i_4), (2, vI (M (229 + 1) 6)), (0, aR Γ 229), (1, vI l)]) hx (dq tX10_byRule 61 rfl) (by decide) rfl rfl ?_
                  refine g_lload (n := 109) hx 1 (dq tX10_byRule 62 rfl) rfl rfl ?_
                  refine g_lstore (n := 111) (lv' := [(4, .long w_35), (3, vI i_2), (8, .long w_35), (7, vI z_26), (6, vI i_2), (2, vI (M (229 + 1) 6)), (0, aR Γ 229), (1, vI l)]) hx (dq tX10_byRule 63 rfl) (by decide) rfl rfl ?_
                  refine g_iinc (n := 114) (lv' := [(6, vI (i_2 + 1)), (4, .long w_35), (3, vI i_2), (8, .long w_35), (7, vI z_26), (2, vI (M (229 + 1) 6)), (0, aR Γ 229), (1, vI l)]) hx 4 (dq tX10_byRule 64 rfl) rfl (by decide) rfl rfl ?_
                  refine g_goto (n := 16) hx (dq tX10_byRule 65 rfl) (by decide) ?_
                  refine g_lv [0, 1, 2, 5, 6, 7] rfl ?_
                  exact ih_6 _ (by omega) (i_2 + 1) i_2 w_35 (by omega) (by omega) (by omega) (by omega) rfl
          refine g_icmp_ne (n := 60) (t := 64) hx (dq tX10_byRule 35 rfl) (by decide) rfl h_28 ⟨by decide, by decide⟩ (fun c_34 => ?_) (fun c_34 => ?_)
          · refine g_aload_n (n := 65) hx 5 (dq tX10_byRule 38 rfl) rfl rfl ?_
            refine g_iload_n (n := 66) hx 4 (dq tX10_byRule 39 rfl) rfl rfl ?_
            refine g_aload_n (n := 67) hx 5 (dq tX10_byRule 40 rfl) rfl rfl ?_
            refine g_getR (n := 70) hx glX10_138 (sX10_53 (by decide)) (dq tX10_byRule 41 rfl) rfl ?_
            refine g_iload (n := 72) hx 0 (dq tX10_byRule 42 rfl) rfl rfl ?_
            refine g_iald (n := 73) (q := z_26.toNat) hx (aX10_53 (b := 229) (by decide)) (dq tX10_byRule 43 rfl) rfl (by omega) (by omega) (by omega) rfl (fun h_42l h_42u => ?_)
            refine g_aload_n (n := 74) hx 5 (dq tX10_byRule 44 rfl) rfl rfl ?_
            refine g_getR (n := 77) hx glX10_141 (sX10_54 (by decide)) (dq tX10_byRule 45 rfl) rfl ?_
            refine g_iload (n := 79) hx 0 (dq tX10_byRule 46 rfl) rfl rfl ?_
            refine g_iald (n := 80) (q := z_26.toNat) hx (aX10_54 (b := 229) (by decide)) (dq tX10_byRule 47 rfl) rfl (by omega) (by omega) (by omega) rfl (fun h_43l h_43u => ?_)
            refine g_callVl (n := 83) (As := [vI (M (229 + 1) 6), vI (M (229 + 42) z_26.toNat), vI (M (229 + 43) z_26.toNat)]) (rest := []) hx (ctX10_answer Γ M (M (229 + 1) 6) (by omega) (by omega) (M (229 + 42) z_26.toNat) (by omega) (by omega) (M (229 + 43) z_26.toNat) (by omega) (by omega) (Rl.sum rl (M (229 + 1) 6) z_26 (by omega) (by omega) (by omega) (by omega))) mlX10_433 (obX10 (by decide)) (dq tX10_byRule 48 rfl) rfl (Nat.le_of_ble_eq_true rfl) (Nat.le_of_ble_eq_true rfl) (Nat.le_of_ble_eq_true rfl) rfl (fun z_44 M_45 p_47 => ?_)
            obtain rfl := p_47
            exact J_36 z_44
          · refine g_lconst (n := 61) (z := 0) hx (dq tX10_byRule 36 rfl) rfl (by decide) ?_
            refine g_goto (n := 83) hx (dq tX10_byRule 37 rfl) (by decide) ?_
            exact J_36 (Int64.ofInt 0)
  exact L_5 _ 0 (-1) (Int64.ofInt 0) (by omega) (by omega) (by omega) (by omega) rfl

abbrev qctX10_ownerOf (M : zM) (l : Int) (z : Int) (M' : zM) : Prop := M = M' ∧ (-1) ≤ z ∧ z ≤ 5
set_option maxHeartbeats 4000000 in
set_option maxRecDepth 100000 in
theorem ctX10_ownerOf (Γ : Gam) (M : zM) (l : Int) (hll : 0 ≤ l) (hlu : l ≤ 11) (pre0 : l < M (229 + 1) 3) (gm : Gm M) (rl : Rl M) : CtI Γ yX10_ownerOf cX10_ownerOf 2 (some .int) 6 145 [aR Γ 229, vI l] M (qctX10_ownerOf M l) := by
  refine met_i (by decide) (Nat.le_of_ble_eq_true rfl) (fun x hx hr => ?_)
  show G Γ x 2 (QI Γ x (qctX10_ownerOf M l)) M 0 [(0, aR Γ 229), (1, vI l)] []
  refine g_aload_n (n := 1) hx 0 (dq tX10_ownerOf 0 rfl) rfl rfl ?_
  refine g_getR (n := 4) hx glX10_9 (sX10_1 (by decide)) (dq tX10_ownerOf 1 rfl) rfl ?_
  refine g_iconst (n := 5) hx (dq tX10_ownerOf 2 rfl) rfl ?_
  refine g_ialdX (n := 6) (q := 5) hx (aX10_1 (b := 229) (by decide)) (dq tX10_ownerOf 3 rfl) rfl (by decide) (by decide) (by decide) rfl (fun h_1l h_1u => ?_)
  have h_1l : 0 ≤ M (229 + 1) 5 := h_1l
  have h_1u : M (229 + 1) 5 ≤ 3 := h_1u
  by_cases c_2 : M (229 + 1) 5 = 0
  · refine g_swI (t := 32) hx (dq tX10_ownerOf 4 rfl) c_2 (by decide) (by decide) rfl (by decide) ?_
    refine g_aload_n (n := 33) hx 0 (dq tX10_ownerOf 5 rfl) rfl rfl ?_
    refine g_iload_n (n := 34) hx 1 (dq tX10_ownerOf 6 rfl) rfl rfl ?_
    refine g_callVi (n := 37) (As := [vI l]) (rest := []) hx (ctX10_firstOf5 Γ M l (by omega) (by omega) (by omega) gm) mlX10_427 (obX10 (by decide)) (dq tX10_ownerOf 7 rfl) rfl (Nat.le_of_ble_eq_true rfl) (Nat.le_of_ble_eq_true rfl) (Nat.le_of_ble_eq_true rfl) rfl (fun z_3 M_4 h_5 p_6 => ?_)
    obtain ⟨rfl, h_8, h_9⟩ := p_6
    exact g_iret hx hr (dq tX10_ownerOf 8 rfl) h_5 ⟨rfl, (by omega), (by omega)⟩
  by_cases c_10 : M (229 + 1) 5 = 1
  · refine g_swI (t := 38) hx (dq tX10_ownerOf 4 rfl) c_10 (by decide) (by decide) rfl (by decide) ?_
    refine g_aload_n (n := 39) hx 0 (dq tX10_ownerOf 9 rfl) rfl rfl ?_
    refine g_iload_n (n := 40) hx 1 (dq tX10_ownerOf 10 rfl) rfl rfl ?_
    refine g_callVi (n := 43) (As := [vI l]) (rest := []) hx (ctX10_lastOf5 Γ M l (by omega) (by omega) (by omega) gm) mlX10_430 (obX10 (by decide)) (dq tX10_ownerOf 11 rfl) rfl (Nat.le_of_ble_eq_true rfl) (Nat.le_of_ble_eq_true rfl) (Nat.le_of_ble_eq_true rfl) rfl (fun z_11 M_12 h_13 p_14 => ?_)
    obtain ⟨rfl, h_16, h_17⟩ := p_14
    exact g_iret hx hr (dq tX10_ownerOf 12 rfl) h_13 ⟨rfl, (by omega), (by omega)⟩
  by_cases c_18 : M (229 + 1) 5 = 2
  · refine g_swI (t := 44) hx (dq tX10_ownerOf 4 rfl) c_18 (by decide) (by decide) rfl (by decide) ?_
    refine g_aload_n (n := 45) hx 0 (dq tX10_ownerOf 13 rfl) rfl rfl ?_
    refine g_iload_n (n := 46) hx 1 (dq tX10_ownerOf 14 rfl) rfl rfl ?_
    refine g_callVi (n := 49) (As := [vI l]) (rest := []) hx (ctX10_byMost Γ M l (by omega) (by omega) (by omega) gm) mlX10_458 (obX10 (by decide)) (dq tX10_ownerOf 15 rfl) rfl (Nat.le_of_ble_eq_true rfl) (Nat.le_of_ble_eq_true rfl) (Nat.le_of_ble_eq_true rfl) rfl (fun z_19 M_20 h_21 p_22 => ?_)
    obtain ⟨rfl, h_24, h_25⟩ := p_22
    exact g_iret hx hr (dq tX10_ownerOf 16 rfl) h_21 ⟨rfl, (by omega), (by omega)⟩
  refine g_swO (t := 50) hx (dq tX10_ownerOf 4 rfl) (zrI h_1l h_1u (by decide) (by decide)) (by omega) (by decide) ?_
  refine g_aload_n (n := 51) hx 0 (dq tX10_ownerOf 17 rfl) rfl rfl ?_
  refine g_iload_n (n := 52) hx 1 (dq tX10_ownerOf 18 rfl) rfl rfl ?_
  refine g_callVi (n := 55) (As := [vI l]) (rest := []) hx (ctX10_byRule Γ M l (by omega) (by omega) (by omega) (by omega) gm rl) mlX10_461 (obX10 (by decide)) (dq tX10_ownerOf 19 rfl) rfl (Nat.le_of_ble_eq_true rfl) (Nat.le_of_ble_eq_true rfl) (Nat.le_of_ble_eq_true rfl) rfl (fun z_26 M_27 h_28 p_29 => ?_)
  obtain ⟨rfl, h_31, h_32⟩ := p_29
  exact g_iret hx hr (dq tX10_ownerOf 20 rfl) h_28 ⟨rfl, (by omega), (by omega)⟩

abbrev qctX10_saysOf (M : zM) (r : Int) (act : Int) (l : Int) (village : Int) (room : Int) (z : Int) (M' : zM) : Prop := M = M' ∧ (z = 0 ∨ (z = 1))
set_option maxHeartbeats 4000000 in
set_option maxRecDepth 100000 in
theorem ctX10_saysOf (Γ : Gam) (M : zM) (r : Int) (hrl : (-1) ≤ r) (hru : r ≤ 5) (act : Int) (hactl : (-2147483648) ≤ act) (hactu : act ≤ 2147483647) (l : Int) (hll : 0 ≤ l) (hlu : l ≤ 11) (village : Int) (hvillagel : (-2147483648) ≤ village) (hvillageu : village ≤ 2147483647) (room : Int) (hrooml : (-2147483648) ≤ room) (hroomu : room ≤ 2147483647) (pre0 : r < M 229 41) (pre1 : l < M (229 + 1) 3) (gm : Gm M) (rl : Rl M) : CtI Γ yX10_saysOf cX10_saysOf 6 (some .boolean) 7 166 [aR Γ 229, vI r, vI act, vI l, vI village, vI room] M (qctX10_saysOf M r act l village room) := by
  refine met_i (by decide) (Nat.le_of_ble_eq_true rfl) (fun x hx hr => ?_)
  show G Γ x 6 (QI Γ x (qctX10_saysOf M r act l village room)) M 0 [(0, aR Γ 229), (1, vI r), (2, vI act), (3, vI l), (4, vI village), (5, vI room)] []
  refine g_iload_n (n := 1) hx 1 (dq tX10_saysOf 0 rfl) rfl rfl ?_
  refine g_iconst (n := 2) hx (dq tX10_saysOf 1 rfl) rfl ?_
  refine g_icmp_ne (n := 5) (t := 7) hx (dq tX10_saysOf 2 rfl) (by decide) rfl (zrI hrl hru (by decide) (by decide)) ⟨by decide, by decide⟩ (fun c_1 => ?_) (fun c_1 => ?_)
  · refine g_aload_n (n := 8) hx 0 (dq tX10_saysOf 5 rfl) rfl rfl ?_
    refine g_iload_n (n := 9) hx 3 (dq tX10_saysOf 6 rfl) rfl rfl ?_
    refine g_iload (n := 11) hx 4 (dq tX10_saysOf 7 rfl) rfl rfl ?_
    refine g_aload_n (n := 12) hx 0 (dq tX10_saysOf 8 rfl) rfl rfl ?_
    refine g_iload_n (n := 13) hx 3 (dq tX10_saysOf 9 rfl) rfl rfl ?_
    refine g_callVi (n := 16) (As := [vI l]) (rest := [vI village, vI l, aR Γ 229]) hx (ctX10_ownerOf Γ M l (by omega) (by omega) (by omega) gm rl) mlX10_464 (obX10 (by decide)) (dq tX10_saysOf 10 rfl) rfl (Nat.le_of_ble_eq_true rfl) (Nat.le_of_ble_eq_true rfl) (Nat.le_of_ble_eq_true rfl) rfl (fun z_2 M_3 h_4 p_5 => ?_)
    obtain ⟨rfl, h_7, h_8⟩ := p_5
    refine g_iload (n := 18) hx 5 (dq tX10_saysOf 11 rfl) rfl rfl ?_
    refine g_callVv (n := 21) (As := [vI l, vI village, vI z_2, vI room]) (rest := []) hx (ctX10_asks Γ M l (by omega) (by omega) village (by omega) (by omega) z_2 (by omega) (by omega) room (by omega) (by omega) (by omega) gm) mlX10_451 (obX10 (by decide)) (dq tX10_saysOf 12 rfl) rfl (Nat.le_of_ble_eq_true rfl) (Nat.le_of_ble_eq_true rfl) (Nat.le_of_ble_eq_true rfl) rfl (fun M_10 p_12 => ?_)
    obtain rfl := p_12
    refine g_aload_n (n := 22) hx 0 (dq tX10_saysOf 13 rfl) rfl rfl ?_
    refine g_iload_n (n := 23) hx 1 (dq tX10_saysOf 14 rfl) rfl rfl ?_
    refine g_iload_n (n := 24) hx 2 (dq tX10_saysOf 15 rfl) rfl rfl ?_
    refine g_callVi (n := 27) (As := [vI r, vI act]) (rest := []) hx (ctX10_firstClause Γ M r (by omega) (by omega) act (by omega) (by omega) (by omega) rl) mlX10_455 (obX10 (by decide)) (dq tX10_saysOf 16 rfl) rfl (Nat.le_of_ble_eq_true rfl) (Nat.le_of_ble_eq_true rfl) (Nat.le_of_ble_eq_true rfl) rfl (fun z_14 M_15 h_16 p_17 => ?_)
    obtain ⟨rfl, h_19, h_20, h_21⟩ := p_17
    refine g_iconst (n := 28) hx (dq tX10_saysOf 17 rfl) rfl ?_
    refine g_icmp_eq (n := 31) (t := 35) hx (dq tX10_saysOf 18 rfl) (by decide) rfl h_16 ⟨by decide, by decide⟩ (fun c_22 => ?_) (fun c_22 => ?_)
    · refine g_iconst (n := 36) hx (dq tX10_saysOf 21 rfl) rfl ?_
      exact g_zret hx hr (dq tX10_saysOf 22 rfl) (by omega) ⟨rfl, (by omega)⟩
    · refine g_iconst (n := 32) hx (dq tX10_saysOf 19 rfl) rfl ?_
      refine g_goto (n := 36) hx (dq tX10_saysOf 20 rfl) (by decide) ?_
      exact g_zret hx hr (dq tX10_saysOf 22 rfl) (by omega) ⟨rfl, (by omega)⟩
  · refine g_iconst (n := 6) hx (dq tX10_saysOf 3 rfl) rfl ?_
    exact g_zret hx hr (dq tX10_saysOf 4 rfl) (by omega) ⟨rfl, (by omega)⟩

abbrev qctX10_ownedBy (M : zM) (v : Int) (z : Int) (M' : zM) : Prop := M = M'
set_option maxHeartbeats 4000000 in
set_option maxRecDepth 100000 in
theorem ctX10_ownedBy (Γ : Gam) (M : zM) (v : Int) (hvl : (-2147483648) ≤ v) (hvu : v ≤ 2147483647) (gm : Gm M) (rl : Rl M) : CtI Γ yX10_ownedBy cX10_ownedBy 4 (some .int) 7 166 [aR Γ 229, vI v] M (qctX10_ownedBy M v) := by
  refine met_i (by decide) (Nat.le_of_ble_eq_true rfl) (fun x hx hr => ?_)
  show G Γ x 4 (QI Γ x (qctX10_ownedBy M v)) M 0 [(0, aR Γ 229), (1, vI v)] []
  refine g_iconst (n := 1) hx (dq tX10_ownedBy 0 rfl) rfl ?_
  refine g_istore_n (n := 2) (lv' := [(2, vI 0), (0, aR Γ 229), (1, vI v)]) hx (dq tX10_ownedBy 1 rfl) (by decide) rfl rfl ?_
  refine g_iconst (n := 3) hx (dq tX10_ownedBy 2 rfl) rfl ?_
  refine g_istore_n (n := 4) (lv' := [(3, vI 0), (2, vI 0), (0, aR Γ 229), (1, vI v)]) hx (dq tX10_ownedBy 3 rfl) (by decide) rfl rfl ?_
  have L_3 : ∀ (n_ : Nat) (i_1 : Int) (i_2 : Int), (0 ≤ i_1) → (i_1 ≤ 12) → ((-2147483648) ≤ i_2) → (i_2 ≤ 2147483647) → ((12 - i_1).toNat = n_) → G Γ x 4 (QI Γ x (qctX10_ownedBy M v)) M 4 [(3, vI i_1), (2, vI i_2), (0, aR Γ 229), (1, vI v)] [] := by
    intro n_
    induction n_ using Nat.strongRecOn with
    | _ n_ ih_4 =>
      intro i_1 i_2 h_7 h_8 h_9 h_10 hm_6
      refine g_iload_n (n := 5) hx 0 (dq tX10_ownedBy 4 rfl) rfl rfl ?_
      refine g_aload_n (n := 6) hx 2 (dq tX10_ownedBy 5 rfl) rfl rfl ?_
      refine g_getR (n := 9) hx glX10_9 (sX10_1 (by decide)) (dq tX10_ownedBy 6 rfl) rfl ?_
      refine g_iconst (n := 10) hx (dq tX10_ownedBy 7 rfl) rfl ?_
      refine g_ialdX (n := 11) (q := 3) hx (aX10_1 (b := 229) (by decide)) (dq tX10_ownedBy 8 rfl) rfl (by decide) (by decide) (by decide) rfl (fun h_11l h_11u => ?_)
      have h_11l : 0 ≤ M (229 + 1) 3 := h_11l
      have h_11u : M (229 + 1) 3 ≤ 12 := h_11u
      refine g_icmp_ge (n := 14) (t := 47) hx (dq tX10_ownedBy 9 rfl) (by decide) rfl ⟨by omega, by omega⟩ (zrI h_11l h_11u (by decide) (by decide)) (fun c_12 => ?_) (fun c_12 => ?_)
      · refine g_iload_n (n := 48) hx 1 (dq tX10_ownedBy 29 rfl) rfl rfl ?_
        exact g_iret hx hr (dq tX10_ownedBy 30 rfl) ⟨by omega, by omega⟩ rfl
      · refine g_iload_n (n := 15) hx 1 (dq tX10_ownedBy 10 rfl) rfl rfl ?_
        refine g_aload_n (n := 16) hx 2 (dq tX10_ownedBy 11 rfl) rfl rfl ?_
        refine g_iload_n (n := 17) hx 0 (dq tX10_ownedBy 12 rfl) rfl rfl ?_
        refine g_callVi (n := 20) (As := [vI i_1]) (rest := [vI i_2]) hx (ctX10_isThere Γ M i_1 (by omega) (by omega)) mlX10_473 (obX10 (by decide)) (dq tX10_ownedBy 13 rfl) rfl (Nat.le_of_ble_eq_true rfl) (Nat.le_of_ble_eq_true rfl) (Nat.le_of_ble_eq_true rfl) rfl (fun z_13 M_14 h_15 p_16 => ?_)
        obtain ⟨rfl, b_18⟩ := p_16
        refine g_if_eq (n := 23) (t := 38) hx (dq tX10_ownedBy 14 rfl) (by decide) rfl h_15 (fun c_20 => ?_) (fun c_20 => ?_)
        · clear b_18
          refine g_iconst (n := 39) hx (dq tX10_ownedBy 24 rfl) rfl ?_
          refine g_ior (n := 40) hx (dq tX10_ownedBy 25 rfl) rfl (fun z_21 h_22 h_23 => ?_)
          clear h_23
          refine g_istore_n (n := 41) (lv' := [(2, vI z_21), (3, vI i_1), (0, aR Γ 229), (1, vI v)]) hx (dq tX10_ownedBy 26 rfl) (by decide) rfl rfl ?_
          refine g_iinc (n := 44) (lv' := [(3, vI (i_1 + 1)), (2, vI z_21), (0, aR Γ 229), (1, vI v)]) hx 1 (dq tX10_ownedBy 27 rfl) rfl (by decide) rfl rfl ?_
          refine g_goto (n := 4) hx (dq tX10_ownedBy 28 rfl) (by decide) ?_
          exact ih_4 _ (by omega) (i_1 + 1) z_21 (by omega) (by omega) (by omega) (by omega) rfl
        · have b_18 := b_18.resolve_left c_20
          obtain ⟨-, h_19⟩ := b_18
          refine g_aload_n (n := 24) hx 2 (dq tX10_ownedBy 15 rfl) rfl rfl ?_
          refine g_iload_n (n := 25) hx 0 (dq tX10_ownedBy 16 rfl) rfl rfl ?_
          refine g_callVi (n := 28) (As := [vI i_1]) (rest := [vI i_2]) hx (ctX10_ownerOf Γ M i_1 (by omega) (by omega) (by omega) gm rl) mlX10_464 (obX10 (by decide)) (dq tX10_ownedBy 17 rfl) rfl (Nat.le_of_ble_eq_true rfl) (Nat.le_of_ble_eq_true rfl) (Nat.le_of_ble_eq_true rfl) rfl (fun z_24 M_25 h_26 p_27 => ?_)
          obtain ⟨rfl, h_29, h_30⟩ := p_27
          refine g_iload_n (n := 29) hx 3 (dq tX10_ownedBy 18 rfl) rfl rfl ?_
          refine g_icmp_ne (n := 32) (t := 38) hx (dq tX10_ownedBy 19 rfl) (by decide) rfl h_26 (zrI hvl hvu (by decide) (by decide)) (fun c_31 => ?_) (fun c_31 => ?_)
          · refine g_iconst (n := 39) hx (dq tX10_ownedBy 24 rfl) rfl ?_
            refine g_ior (n := 40) hx (dq tX10_ownedBy 25 rfl) rfl (fun z_32 h_33 h_34 => ?_)
            clear h_34
            refine g_istore_n (n := 41) (lv' := [(2, vI z_32), (3, vI i_1), (0, aR Γ 229), (1, vI v)]) hx (dq tX10_ownedBy 26 rfl) (by decide) rfl rfl ?_
            refine g_iinc (n := 44) (lv' := [(3, vI (i_1 + 1)), (2, vI z_32), (0, aR Γ 229), (1, vI v)]) hx 1 (dq tX10_ownedBy 27 rfl) rfl (by decide) rfl rfl ?_
            refine g_goto (n := 4) hx (dq tX10_ownedBy 28 rfl) (by decide) ?_
            exact ih_4 _ (by omega) (i_1 + 1) z_32 (by omega) (by omega) (by omega) (by omega) rfl
          · refine g_iconst (n := 33) hx (dq tX10_ownedBy 20 rfl) rfl ?_
            refine g_iload_n (n := 34) hx 0 (dq tX10_ownedBy 21 rfl) rfl rfl ?_
            refine g_ishl1 (n := 35) hx (dq tX10_ownedBy 22 rfl) rfl (by omega) (by omega) ?_
            refine g_nam (fun z_35 h_36 => ?_)
            have h_371 := pw1 (k := 11) (by omega) (by omega) h_36
            obtain ⟨h_372, h_373⟩ := h_371
            refine g_goto (n := 39) hx (dq tX10_ownedBy 23 rfl) (by decide) ?_
            refine g_ior (n := 40) hx (dq tX10_ownedBy 25 rfl) rfl (fun z_38 h_39 h_40 => ?_)
            clear h_40
            refine g_istore_n (n := 41) (lv' := [(2, vI z_38), (3, vI i_1), (0, aR Γ 229), (1, vI v)]) hx (dq tX10_ownedBy 26 rfl) (by decide) rfl rfl ?_
            refine g_iinc (n := 44) (lv' := [(3, vI (i_1 + 1)), (2, vI z_38), (0, aR Γ 229), (1, vI v)]) hx 1 (dq tX10_ownedBy 27 rfl) rfl (by decide) rfl rfl ?_
            refine g_goto (n := 4) hx (dq tX10_ownedBy 28 rfl) (by decide) ?_
            exact ih_4 _ (by omega) (i_1 + 1) z_38 (by omega) (by omega) (by omega) (by omega) rfl
  exact L_3 _ 0 0 (by omega) (by omega) (by omega) (by omega) rfl

abbrev qctX10_village (M : zM) (v : Int) (what : Int) (z : Int) (M' : zM) : Prop := M = M'
set_option maxHeartbeats 4000000 in
set_option maxRecDepth 100000 in
theorem ctX10_village (Γ : Gam) (M : zM) (v : Int) (hvl : (-2147483648) ≤ v) (hvu : v ≤ 2147483647) (what : Int) (hwhatl : (-2147483648) ≤ what) (hwhatu : what ≤ 2147483647) (gm : Gm M) (rl : Rl M) : CtI Γ yX10_village cX10_village 3 (some .int) 8 189 [aR Γ 229, vI v, vI what] M (qctX10_village M v what) := by
  refine met_i (by decide) (Nat.le_of_ble_eq_true rfl) (fun x hx hr => ?_)
  show G Γ x 3 (QI Γ x (qctX10_village M v what)) M 0 [(0, aR Γ 229), (1, vI v), (2, vI what)] []
  refine g_aload_n (n := 1) hx 0 (dq tX10_village 0 rfl) rfl rfl ?_
  refine g_iload_n (n := 2) hx 1 (dq tX10_village 1 rfl) rfl rfl ?_
  refine g_callVi (n := 5) (As := [vI v]) (rest := []) hx (ctX10_isVillage Γ M v (by omega) (by omega)) mlX10_419 (obX10 (by decide)) (dq tX10_village 2 rfl) rfl (Nat.le_of_ble_eq_true rfl) (Nat.le_of_ble_eq_true rfl) (Nat.le_of_ble_eq_true rfl) rfl (fun z_1 M_2 h_3 p_4 => ?_)
  obtain ⟨rfl, b_6⟩ := p_4
  refine g_if_ne (n := 8) (t := 12) hx (dq tX10_village 3 rfl) (by decide) rfl h_3 (fun c_10 => ?_) (fun c_10 => ?_)
  · have b_6 := b_6.resolve_left c_10
    obtain ⟨-, h_7, h_8, h_9⟩ := b_6
    refine g_iload_n (n := 13) hx 2 (dq tX10_village 6 rfl) rfl rfl ?_
    by_cases c_11 : what = 0
    · refine g_swI (t := 52) hx (dq tX10_village 7 rfl) c_11 (by decide) (by decide) rfl (by decide) ?_
      refine g_aload_n (n := 53) hx 0 (dq tX10_village 8 rfl) rfl rfl ?_
      refine g_getR (n := 56) hx glX10_22 (sX10_5 (by decide)) (dq tX10_village 9 rfl) rfl ?_
      refine g_iload_n (n := 57) hx 1 (dq tX10_village 10 rfl) rfl rfl ?_
      refine g_iald (n := 58) (q := v.toNat) hx (aX10_5 (b := 229) (by decide)) (dq tX10_village 11 rfl) rfl (by omega) (by omega) (by omega) rfl (fun h_12l h_12u => ?_)
      exact g_iret hx hr (dq tX10_village 12 rfl) (zrI h_12l h_12u (by decide) (by decide)) rfl
    by_cases c_13 : what = 1
    · refine g_swI (t := 59) hx (dq tX10_village 7 rfl) c_13 (by decide) (by decide) rfl (by decide) ?_
      refine g_aload_n (n := 60) hx 0 (dq tX10_village 13 rfl) rfl rfl ?_
      refine g_getR (n := 63) hx glX10_25 (sX10_6 (by decide)) (dq tX10_village 14 rfl) rfl ?_
      refine g_iload_n (n := 64) hx 1 (dq tX10_village 15 rfl) rfl rfl ?_
      refine g_iald (n := 65) (q := v.toNat) hx (aX10_6 (b := 229) (by decide)) (dq tX10_village 16 rfl) rfl (by omega) (by omega) (by omega) rfl (fun h_14l h_14u => ?_)
      exact g_iret hx hr (dq tX10_village 17 rfl) (zrI h_14l h_14u (by decide) (by decide)) rfl
    by_cases c_15 : what = 2
    · refine g_swI (t := 66) hx (dq tX10_village 7 rfl) c_15 (by decide) (by decide) rfl (by decide) ?_
      refine g_aload_n (n := 67) hx 0 (dq tX10_village 18 rfl) rfl rfl ?_
      refine g_getR (n := 70) hx glX10_28 (sX10_7 (by decide)) (dq tX10_village 19 rfl) rfl ?_
      refine g_iload_n (n := 71) hx 1 (dq tX10_village 20 rfl) rfl rfl ?_
      refine g_iald (n := 72) (q := v.toNat) hx (aX10_7 (b := 229) (by decide)) (dq tX10_village 21 rfl) rfl (by omega) (by omega) (by omega) rfl (fun h_16l h_16u => ?_)
      exact g_iret hx hr (dq tX10_village 22 rfl) (zrI h_16l h_16u (by decide) (by decide)) rfl
    by_cases c_17 : what = 3
    · refine g_swI (t := 73) hx (dq tX10_village 7 rfl) c_17 (by decide) (by decide) rfl (by decide) ?_
      refine g_aload_n (n := 74) hx 0 (dq tX10_village 23 rfl) rfl rfl ?_
      refine g_bipush (n := 76) hx (dq tX10_village 24 rfl) rfl (by decide) ?_
      refine g_iload_n (n := 77) hx 1 (dq tX10_village 25 rfl) rfl rfl ?_
      refine g_iadd (n := 78) hx (dq tX10_village 26 rfl) rfl ?_
      refine g_callVi (n := 81) (As := [vI (20 + v)]) (rest := []) hx (ctX10_logsAt Γ M (20 + v) (by omega) (by omega)) mlX10_206 (obX10 (by decide)) (dq tX10_village 27 rfl) rfl (Nat.le_of_ble_eq_true rfl) (Nat.le_of_ble_eq_true rfl) (Nat.le_of_ble_eq_true rfl) rfl (fun z_18 M_19 h_20 p_21 => ?_)
      obtain rfl := p_21
      exact g_iret hx hr (dq tX10_village 28 rfl) h_20 rfl
    by_cases c_23 : what = 4
    · refine g_swI (t := 82) hx (dq tX10_village 7 rfl) c_23 (by decide) (by decide) rfl (by decide) ?_
      refine g_aload_n (n := 83) hx 0 (dq tX10_village 29 rfl) rfl rfl ?_
      refine g_iload_n (n := 84) hx 1 (dq tX10_village 30 rfl) rfl rfl ?_
      refine g_callVi (n := 87) (As := [vI v]) (rest := []) hx (ctX10_ownedBy Γ M v (by omega) (by omega) gm rl) mlX10_477 (obX10 (by decide)) (dq tX10_village 31 rfl) rfl (Nat.le_of_ble_eq_true rfl) (Nat.le_of_ble_eq_true rfl) (Nat.le_of_ble_eq_true rfl) rfl (fun z_24 M_25 h_26 p_27 => ?_)
      obtain rfl := p_27
      exact g_iret hx hr (dq tX10_village 32 rfl) h_26 rfl
    by_cases c_29 : what = 5
    · refine g_swI (t := 88) hx (dq tX10_village 7 rfl) c_29 (by decide) (by decide) rfl (by decide) ?_
      refine g_aload_n (n := 89) hx 0 (dq tX10_village 33 rfl) rfl rfl ?_
      refine g_iload_n (n := 90) hx 1 (dq tX10_village 34 rfl) rfl rfl ?_
      refine g_callVi (n := 93) (As := [vI v]) (rest := []) hx (ctX10_netOf Γ M v (by omega) (by omega)) mlX10_480 (obX10 (by decide)) (dq tX10_village 35 rfl) rfl (Nat.le_of_ble_eq_true rfl) (Nat.le_of_ble_eq_true rfl) (Nat.le_of_ble_eq_true rfl) rfl (fun z_30 M_31 h_32 p_33 => ?_)
      obtain rfl := p_33
      exact g_iret hx hr (dq tX10_village 36 rfl) h_32 rfl
    refine g_swO (t := 94) hx (dq tX10_village 7 rfl) (zrI hwhatl hwhatu (by decide) (by decide)) (by omega) (by decide) ?_
    refine g_ldcw (n := 97) (z := (-1000000)) hx wd_1599 (by decide) (dq tX10_village 37 rfl) rfl ?_
    exact g_iret hx hr (dq tX10_village 38 rfl) ⟨by decide, by decide⟩ rfl
  · clear b_6
    refine g_ldcw (n := 11) (z := (-1000000)) hx wd_1599 (by decide) (dq tX10_village 4 rfl) rfl ?_
    exact g_iret hx hr (dq tX10_village 5 rfl) ⟨by decide, by decide⟩ rfl

abbrev qctX10_votesOf (M : zM) (b_ : Int) (isA : Int) (z : Int) (M' : zM) : Prop := M = M'
set_option maxHeartbeats 4000000 in
set_option maxRecDepth 100000 in
theorem ctX10_votesOf (Γ : Gam) (M : zM) (b_ : Int) (hb_l : (-2147483648) ≤ b_) (hb_u : b_ ≤ 2147483647) (isA : Int) (hisAl : 0 ≤ isA) (hisAu : isA ≤ 1) (gm : Gm M) (rl : Rl M) : CtI Γ yX10_votesOf cX10_votesOf 7 (some .int) 7 166 [aR Γ 229, vI b_, vI isA] M (qctX10_votesOf M b_ isA) := by
  refine met_i (by decide) (Nat.le_of_ble_eq_true rfl) (fun x hx hr => ?_)
  show G Γ x 7 (QI Γ x (qctX10_votesOf M b_ isA)) M 0 [(0, aR Γ 229), (1, vI b_), (2, vI isA)] []
  refine g_iconst (n := 1) hx (dq tX10_votesOf 0 rfl) rfl ?_
  refine g_istore_n (n := 2) (lv' := [(3, vI 0), (0, aR Γ 229), (1, vI b_), (2, vI isA)]) hx (dq tX10_votesOf 1 rfl) (by decide) rfl rfl ?_
  refine g_iconst (n := 3) hx (dq tX10_votesOf 2 rfl) rfl ?_
  refine g_istore (n := 5) (lv' := [(4, vI 0), (3, vI 0), (0, aR Γ 229), (1, vI b_), (2, vI isA)]) hx (dq tX10_votesOf 3 rfl) (by decide) rfl rfl ?_
  refine g_iconst (n := 6) hx (dq tX10_votesOf 4 rfl) rfl ?_
  refine g_istore (n := 8) (lv' := [(5, vI 0), (4, vI 0), (3, vI 0), (0, aR Γ 229), (1, vI b_), (2, vI isA)]) hx (dq tX10_votesOf 5 rfl) (by decide) rfl rfl ?_
  have L_4 : ∀ (n_ : Nat) (i_1 : Int) (i_2 : Int) (i_3 : Int), (0 ≤ i_1) → (i_1 ≤ 12) → (0 ≤ i_2) → (i_2 ≤ 63) → (0 ≤ i_3) → (i_3 ≤ 63) → ((12 - i_1).toNat = n_) → G Γ x 7 (QI Γ x (qctX10_votesOf M b_ isA)) M 8 [(5, vI i_1), (4, vI i_2), (3, vI i_3), (0, aR Γ 229), (1, vI b_), (2, vI isA)] [] := by
    intro n_
    induction n_ using Nat.strongRecOn with
    | _ n_ ih_5 =>
      intro i_1 i_2 i_3 h_8 h_9 h_10 h_11 h_12 h_13 hm_7
      refine g_iload (n := 10) hx 0 (dq tX10_votesOf 6 rfl) rfl rfl ?_
      refine g_aload_n (n := 11) hx 3 (dq tX10_votesOf 7 rfl) rfl rfl ?_
      refine g_getR (n := 14) hx glX10_9 (sX10_1 (by decide)) (dq tX10_votesOf 8 rfl) rfl ?_
      refine g_iconst (n := 15) hx (dq tX10_votesOf 9 rfl) rfl ?_
      refine g_ialdX (n := 16) (q := 3) hx (aX10_1 (b := 229) (by decide)) (dq tX10_votesOf 10 rfl) rfl (by decide) (by decide) (by decide) rfl (fun h_14l h_14u => ?_)
      have h_14l : 0 ≤ M (229 + 1) 3 := h_14l
      have h_14u : M (229 + 1) 3 ≤ 12 := h_14u
      refine g_icmp_ge (n := 19) (t := 98) hx (dq tX10_votesOf 11 rfl) (by decide) rfl ⟨by omega, by omega⟩ (zrI h_14l h_14u (by decide) (by decide)) (fun c_15 => ?_) (fun c_15 => ?_)
      · refine g_iload_n (n := 99) hx 5 (dq tX10_votesOf 55 rfl) rfl rfl ?_
        refine g_if_eq (n := 102) (t := 106) hx (dq tX10_votesOf 56 rfl) (by decide) rfl (zrI hisAl hisAu (by decide) (by decide)) (fun c_16 => ?_) (fun c_16 => ?_)
        · refine g_iload (n := 108) hx 1 (dq tX10_votesOf 59 rfl) rfl rfl ?_
          refine g_iload_n (n := 109) hx 2 (dq tX10_votesOf 60 rfl) rfl rfl ?_
          refine g_iconst (n := 110) hx (dq tX10_votesOf 61 rfl) rfl ?_
          refine g_ixor (n := 111) hx (dq tX10_votesOf 62 rfl) rfl (fun z_17 h_18 h_19 h_19s => ?_)
          clear h_19 h_19s
          refine g_iand (n := 112) hx (dq tX10_votesOf 63 rfl) rfl (fun z_20 h_21 h_221 h_222 => ?_)
          obtain ⟨h_223, h_224⟩ := h_222 (by omega) (by omega)
          clear h_221 h_222
          exact g_iret hx hr (dq tX10_votesOf 64 rfl) h_21 rfl
        · refine g_iload_n (n := 103) hx 2 (dq tX10_votesOf 57 rfl) rfl rfl ?_
          refine g_goto (n := 112) hx (dq tX10_votesOf 58 rfl) (by decide) ?_
          exact g_iret hx hr (dq tX10_votesOf 64 rfl) ⟨by omega, by omega⟩ rfl
      · refine g_aload_n (n := 20) hx 3 (dq tX10_votesOf 12 rfl) rfl rfl ?_
        refine g_iload (n := 22) hx 0 (dq tX10_votesOf 13 rfl) rfl rfl ?_
        refine g_callVi (n := 25) (As := [vI i_1]) (rest := []) hx (ctX10_isInWater Γ M i_1 (by omega) (by omega)) mlX10_199 (obX10 (by decide)) (dq tX10_votesOf 14 rfl) rfl (Nat.le_of_ble_eq_true rfl) (Nat.le_of_ble_eq_true rfl) (Nat.le_of_ble_eq_true rfl) rfl (fun z_23 M_24 h_25 p_26 => ?_)
        obtain ⟨rfl, b_28, h_29⟩ := p_26
        have J_33 : ∀ (j_32 : Int),  ((-1) ≤ j_32) → (j_32 ≤ 5) → G Γ x 7 (QI Γ x (qctX10_votesOf M b_ isA)) M 38 [(5, vI i_1), (4, vI i_2), (3, vI i_3), (0, aR Γ 229), (1, vI b_), (2, vI isA)] [vI j_32] := by
          intro j_32 h_34 h_35
          refine g_istore (n := 40) (lv' := [(6, vI j_32), (5, vI i_1), (4, vI i_2), (3, vI i_3), (0, aR Γ 229), (1, vI b_), (2, vI isA)]) hx (dq tX10_votesOf 21 rfl) (by decide) rfl rfl ?_
          refine g_iload (n := 42) hx 0 (dq tX10_votesOf 22 rfl) rfl rfl ?_
          refine g_iconst (n := 43) hx (dq tX10_votesOf 23 rfl) rfl ?_
          refine g_icmp_eq (n := 46) (t := 92) hx (dq tX10_votesOf 24 rfl) (by decide) rfl ⟨by omega, by omega⟩ ⟨by decide, by decide⟩ (fun c_36 => ?_) (fun c_36 => ?_)
          · refine g_iinc (n := 95) (lv' := [(5, vI (i_1 + 1)), (6, vI j_32), (4, vI i_2), (3, vI i_3), (0, aR Γ 229), (1, vI b_), (2, vI isA)]) hx 1 (dq tX10_votesOf 53 rfl) rfl (by decide) rfl rfl ?_
            refine g_goto (n := 8) hx (dq tX10_votesOf 54 rfl) (by decide) ?_
            refine g_lv [0, 2, 3, 4, 5, 6] rfl ?_
            exact ih_5 _ (by omega) (i_1 + 1) i_2 i_3 (by omega) (by omega) (by omega) (by omega) (by omega) (by omega) rfl
          · refine g_iload_n (n := 47) hx 3 (dq tX10_votesOf 25 rfl) rfl rfl ?_
            refine g_aload_n (n := 48) hx 4 (dq tX10_votesOf 26 rfl) rfl rfl ?_
            refine g_getR (n := 51) hx glX10_43 (sX10_12 (by decide)) (dq tX10_votesOf 27 rfl) rfl ?_
            refine g_iload (n := 53) hx 1 (dq tX10_votesOf 28 rfl) rfl rfl ?_
            refine g_iald (n := 54) (q := i_1.toNat) hx (aX10_12 (b := 229) (by decide)) (dq tX10_votesOf 29 rfl) rfl (by omega) (by omega) (by omega) rfl (fun h_37l h_37u => ?_)
            refine g_iload_n (n := 55) hx 5 (dq tX10_votesOf 30 rfl) rfl rfl ?_
            have J_40 : ∀ (j_39 : Int),  (0 ≤ j_39) → (j_39 ≤ 32) → G Γ x 7 (QI Γ x (qctX10_votesOf M b_ isA)) M 66 [(6, vI j_32), (5, vI i_1), (4, vI i_2), (3, vI i_3), (0, aR Γ 229), (1, vI b_), (2, vI isA)] [vI j_39, vI i_3] := by
              intro j_39 h_41 h_42
              refine g_ior (n := 67) hx (dq tX10_votesOf 37 rfl) rfl (fun z_43 h_44 h_45 => ?_)
              obtain ⟨h_453, h_454⟩ := h_45 6 (by decide) (by omega) (by omega) (by omega) (by omega)
              clear h_45
              refine g_istore_n (n := 68) (lv' := [(3, vI z_43), (6, vI j_32), (5, vI i_1), (4, vI i_2), (0, aR Γ 229), (1, vI b_), (2, vI isA)]) hx (dq tX10_votesOf 38 rfl) (by decide) rfl rfl ?_
              refine g_iload (n := 70) hx 3 (dq tX10_votesOf 39 rfl) rfl rfl ?_
              refine g_aload_n (n := 71) hx 4 (dq tX10_votesOf 40 rfl) rfl rfl ?_
              refine g_getR (n := 74) hx glX10_43 (sX10_12 (by decide)) (dq tX10_votesOf 41 rfl) rfl ?_
              refine g_iload (n := 76) hx 2 (dq tX10_votesOf 42 rfl) rfl rfl ?_
              refine g_iald (n := 77) (q := i_1.toNat) hx (aX10_12 (b := 229) (by decide)) (dq tX10_votesOf 43 rfl) rfl (by omega) (by omega) (by omega) rfl (fun h_46l h_46u => ?_)
              refine g_iload_n (n := 78) hx 5 (dq tX10_votesOf 44 rfl) rfl rfl ?_
              refine g_icmp_lt (n := 81) (t := 88) hx (dq tX10_votesOf 45 rfl) (by decide) rfl (zrI h_46l h_46u (by decide) (by decide)) (zrI hb_l hb_u (by decide) (by decide)) (fun c_47 => ?_) (fun c_47 => ?_)
              · refine g_iconst (n := 89) hx (dq tX10_votesOf 50 rfl) rfl ?_
                refine g_ior (n := 90) hx (dq tX10_votesOf 51 rfl) rfl (fun z_48 h_49 h_50 => ?_)
                obtain ⟨h_503, h_504⟩ := h_50 6 (by decide) (by omega) (by omega) (by omega) (by omega)
                clear h_50
                refine g_istore (n := 92) (lv' := [(4, vI z_48), (3, vI z_43), (6, vI j_32), (5, vI i_1), (0, aR Γ 229), (1, vI b_), (2, vI isA)]) hx (dq tX10_votesOf 52 rfl) (by decide) rfl rfl ?_
                refine g_iinc (n := 95) (lv' := [(5, vI (i_1 + 1)), (4, vI z_48), (3, vI z_43), (6, vI j_32), (0, aR Γ 229), (1, vI b_), (2, vI isA)]) hx 3 (dq tX10_votesOf 53 rfl) rfl (by decide) rfl rfl ?_
                refine g_goto (n := 8) hx (dq tX10_votesOf 54 rfl) (by decide) ?_
                refine g_lv [0, 1, 2, 4, 5, 6] rfl ?_
                exact ih_5 _ (by omega) (i_1 + 1) z_48 z_43 (by omega) (by omega) (by omega) (by omega) (by omega) (by omega) rfl
              · refine g_iconst (n := 82) hx (dq tX10_votesOf 46 rfl) rfl ?_
                refine g_iload (n := 84) hx 1 (dq tX10_votesOf 47 rfl) rfl rfl ?_
                refine g_ishl1 (n := 85) hx (dq tX10_votesOf 48 rfl) rfl (by omega) (by omega) ?_
                refine g_nam (fun z_51 h_52 => ?_)
                have h_531 := pw1 (k := 5) (by omega) (by omega) h_52
                obtain ⟨h_532, h_533⟩ := h_531
                refine g_goto (n := 89) hx (dq tX10_votesOf 49 rfl) (by decide) ?_
                refine g_ior (n := 90) hx (dq tX10_votesOf 51 rfl) rfl (fun z_54 h_55 h_56 => ?_)
                obtain ⟨h_563, h_564⟩ := h_56 6 (by decide) (by omega) (by omega) (by omega) (by omega)
                clear h_56
                refine g_istore (n := 92) (lv' := [(4, vI z_54), (3, vI z_43), (6, vI j_32), (5, vI i_1), (0, aR Γ 229), (1, vI b_), (2, vI isA)]) hx (dq tX10_votesOf 52 rfl) (by decide) rfl rfl ?_
                refine g_iinc (n := 95) (lv' := [(5, vI (i_1 + 1)), (4, vI z_54), (3, vI z_43), (6, vI j_32), (0, aR Γ 229), (1, vI b_), (2, vI isA)]) hx 3 (dq tX10_votesOf 53 rfl) rfl (by decide) rfl rfl ?_
                refine g_goto (n := 8) hx (dq tX10_votesOf 54 rfl) (by decide) ?_
                refine g_lv [0, 1, 2, 4, 5, 6] rfl ?_
                exact ih_5 _ (by omega) (i_1 + 1) z_54 z_43 (by omega) (by omega) (by omega) (by omega) (by omega) (by omega) rfl
            refine g_icmp_ge (n := 58) (t := 65) hx (dq tX10_votesOf 31 rfl) (by decide) rfl (zrI h_37l h_37u (by decide) (by decide)) (zrI hb_l hb_u (by decide) (by decide)) (fun c_38 => ?_) (fun c_38 => ?_)
            · refine g_iconst (n := 66) hx (dq tX10_votesOf 36 rfl) rfl ?_
              exact J_40 0 (by omega) (by omega)
            · refine g_iconst (n := 59) hx (dq tX10_votesOf 32 rfl) rfl ?_
              refine g_iload (n := 61) hx 0 (dq tX10_votesOf 33 rfl) rfl rfl ?_
              refine g_ishl1 (n := 62) hx (dq tX10_votesOf 34 rfl) rfl (by omega) (by omega) ?_
              refine g_nam (fun z_57 h_58 => ?_)
              have h_591 := pw1 (k := 5) (by omega) (by omega) h_58
              obtain ⟨h_592, h_593⟩ := h_591
              refine g_goto (n := 66) hx (dq tX10_votesOf 35 rfl) (by decide) ?_
              exact J_40 z_57 (by omega) (by omega)
        refine g_if_eq (n := 28) (t := 37) hx (dq tX10_votesOf 15 rfl) (by decide) rfl h_25 (fun c_31 => ?_) (fun c_31 => ?_)
        · clear b_28
          refine g_iconst (n := 38) hx (dq tX10_votesOf 20 rfl) rfl ?_
          exact J_33 (-1) (by omega) (by omega)
        · have b_28 := b_28.resolve_left c_31
          obtain ⟨-, h_30⟩ := b_28
          refine g_aload_n (n := 29) hx 3 (dq tX10_votesOf 16 rfl) rfl rfl ?_
          refine g_iload (n := 31) hx 0 (dq tX10_votesOf 17 rfl) rfl rfl ?_
          refine g_callVi (n := 34) (As := [vI i_1]) (rest := []) hx (ctX10_ownerOf Γ M i_1 (by omega) (by omega) (by omega) gm rl) mlX10_464 (obX10 (by decide)) (dq tX10_votesOf 18 rfl) rfl (Nat.le_of_ble_eq_true rfl) (Nat.le_of_ble_eq_true rfl) (Nat.le_of_ble_eq_true rfl) rfl (fun z_60 M_61 h_62 p_63 => ?_)
          obtain ⟨rfl, h_65, h_66⟩ := p_63
          refine g_goto (n := 38) hx (dq tX10_votesOf 19 rfl) (by decide) ?_
          exact J_33 z_60 (by omega) (by omega)
  exact L_4 _ 0 0 0 (by omega) (by omega) (by omega) (by omega) (by omega) (by omega) rfl

abbrev qctX10_votes (M : zM) (b_ : Int) (what : Int) (z : Int) (M' : zM) : Prop := M = M'
set_option maxHeartbeats 4000000 in
set_option maxRecDepth 100000 in
theorem ctX10_votes (Γ : Gam) (M : zM) (b_ : Int) (hb_l : (-2147483648) ≤ b_) (hb_u : b_ ≤ 2147483647) (what : Int) (hwhatl : (-2147483648) ≤ what) (hwhatu : what ≤ 2147483647) (gm : Gm M) (rl : Rl M) : CtI Γ yX10_votes cX10_votes 3 (some .int) 8 192 [aR Γ 229, vI b_, vI what] M (qctX10_votes M b_ what) := by
  refine met_i (by decide) (Nat.le_of_ble_eq_true rfl) (fun x hx hr => ?_)
  show G Γ x 3 (QI Γ x (qctX10_votes M b_ what)) M 0 [(0, aR Γ 229), (1, vI b_), (2, vI what)] []
  refine g_aload_n (n := 1) hx 0 (dq tX10_votes 0 rfl) rfl rfl ?_
  refine g_iload_n (n := 2) hx 1 (dq tX10_votes 1 rfl) rfl rfl ?_
  refine g_callVi (n := 5) (As := [vI b_]) (rest := []) hx (ctX10_isBend Γ M b_ (by omega) (by omega)) mlX10_467 (obX10 (by decide)) (dq tX10_votes 2 rfl) rfl (Nat.le_of_ble_eq_true rfl) (Nat.le_of_ble_eq_true rfl) (Nat.le_of_ble_eq_true rfl) rfl (fun z_1 M_2 h_3 p_4 => ?_)
  obtain ⟨rfl, b_6⟩ := p_4
  refine g_if_eq (n := 8) (t := 35) hx (dq tX10_votes 3 rfl) (by decide) rfl h_3 (fun c_10 => ?_) (fun c_10 => ?_)
  · clear b_6
    refine g_iconst (n := 36) hx (dq tX10_votes 19 rfl) rfl ?_
    exact g_iret hx hr (dq tX10_votes 20 rfl) ⟨by decide, by decide⟩ rfl
  · have b_6 := b_6.resolve_left c_10
    obtain ⟨-, h_7, h_8, h_9⟩ := b_6
    refine g_iload_n (n := 9) hx 2 (dq tX10_votes 4 rfl) rfl rfl ?_
    refine g_i2l (n := 10) hx (dq tX10_votes 5 rfl) rfl (zrI hwhatl hwhatu (by decide) (by decide)) ?_
    refine g_lconst (n := 11) (z := 0) hx (dq tX10_votes 6 rfl) rfl (by decide) ?_
    refine g_lconst (n := 12) (z := 1) hx (dq tX10_votes 7 rfl) rfl (by decide) ?_
    refine g_callSi (n := 15) (As := [vL what, vL 0, vL 1]) (rest := []) hx (ctX10_in Γ M what (by omega) (by omega) 0 (by omega) (by omega) 1 (by omega) (by omega)) mlX10_191 (dq tX10_votes 8 rfl) rfl (Nat.le_of_ble_eq_true rfl) (Nat.le_of_ble_eq_true rfl) (Nat.le_of_ble_eq_true rfl) rfl (fun z_11 M_12 h_13 p_14 => ?_)
    obtain ⟨rfl, b_16, h_17⟩ := p_14
    refine g_if_eq (n := 18) (t := 35) hx (dq tX10_votes 9 rfl) (by decide) rfl h_13 (fun c_20 => ?_) (fun c_20 => ?_)
    · clear b_16
      refine g_iconst (n := 36) hx (dq tX10_votes 19 rfl) rfl ?_
      exact g_iret hx hr (dq tX10_votes 20 rfl) ⟨by decide, by decide⟩ rfl
    · have b_16 := b_16.resolve_left c_20
      obtain ⟨-, h_18, h_19⟩ := b_16
      refine g_aload_n (n := 19) hx 0 (dq tX10_votes 10 rfl) rfl rfl ?_
      refine g_iload_n (n := 20) hx 1 (dq tX10_votes 11 rfl) rfl rfl ?_
      refine g_iload_n (n := 21) hx 2 (dq tX10_votes 12 rfl) rfl rfl ?_
      refine g_if_ne (n := 24) (t := 28) hx (dq tX10_votes 13 rfl) (by decide) rfl (zrI hwhatl hwhatu (by decide) (by decide)) (fun c_21 => ?_) (fun c_21 => ?_)
      · refine g_iconst (n := 29) hx (dq tX10_votes 16 rfl) rfl ?_
        refine g_callVi (n := 32) (As := [vI b_, vI 0]) (rest := []) hx (ctX10_votesOf Γ M b_ (by omega) (by omega) 0 (by decide) (by decide) gm rl) mlX10_502 (obX10 (by decide)) (dq tX10_votes 17 rfl) rfl (Nat.le_of_ble_eq_true rfl) (Nat.le_of_ble_eq_true rfl) (Nat.le_of_ble_eq_true rfl) rfl (fun z_22 M_23 h_24 p_25 => ?_)
        obtain rfl := p_25
        refine g_goto (n := 36) hx (dq tX10_votes 18 rfl) (by decide) ?_
        exact g_iret hx hr (dq tX10_votes 20 rfl) h_24 rfl
      · refine g_iconst (n := 25) hx (dq tX10_votes 14 rfl) rfl ?_
        refine g_goto (n := 29) hx (dq tX10_votes 15 rfl) (by decide) ?_
        refine g_callVi (n := 32) (As := [vI b_, vI 1]) (rest := []) hx (ctX10_votesOf Γ M b_ (by omega) (by omega) 1 (by decide) (by decide) gm rl) mlX10_502 (obX10 (by decide)) (dq tX10_votes 17 rfl) rfl (Nat.le_of_ble_eq_true rfl) (Nat.le_of_ble_eq_true rfl) (Nat.le_of_ble_eq_true rfl) rfl (fun z_27 M_28 h_29 p_30 => ?_)
        obtain rfl := p_30
        refine g_goto (n := 36) hx (dq tX10_votes 18 rfl) (by decide) ?_
        exact g_iret hx hr (dq tX10_votes 20 rfl) h_29 rfl

abbrev qctX10_appeal (M : zM) (b_ : Int) (z : Int) (M' : zM) : Prop := (∀ u_ v_, u_ ≠ 229 + 3 → M' u_ v_ = M u_ v_) ∧ Gm M' ∧ Rl M'
set_option maxHeartbeats 4000000 in
set_option maxRecDepth 100000 in
theorem ctX10_appeal (Γ : Gam) (M : zM) (b_ : Int) (hb_l : (-2147483648) ≤ b_) (hb_u : b_ ≤ 2147483647) (gm : Gm M) (rl : Rl M) : CtI Γ yX10_appeal cX10_appeal 3 (some .int) 8 192 [aR Γ 229, vI b_] M (qctX10_appeal M b_) := by
  refine met_i (by decide) (Nat.le_of_ble_eq_true rfl) (fun x hx hr => ?_)
  show G Γ x 3 (QI Γ x (qctX10_appeal M b_)) M 0 [(0, aR Γ 229), (1, vI b_)] []
  refine g_aload_n (n := 1) hx 0 (dq tX10_appeal 0 rfl) rfl rfl ?_
  refine g_iload_n (n := 2) hx 1 (dq tX10_appeal 1 rfl) rfl rfl ?_
  refine g_callVi (n := 5) (As := [vI b_]) (rest := []) hx (ctX10_isBend Γ M b_ (by omega) (by omega)) mlX10_467 (obX10 (by decide)) (dq tX10_appeal 2 rfl) rfl (Nat.le_of_ble_eq_true rfl) (Nat.le_of_ble_eq_true rfl) (Nat.le_of_ble_eq_true rfl) rfl (fun z_1 M_2 h_3 p_4 => ?_)
  obtain ⟨rfl, b_6⟩ := p_4
  refine g_if_eq (n := 8) (t := 17) hx (dq tX10_appeal 3 rfl) (by decide) rfl h_3 (fun c_10 => ?_) (fun c_10 => ?_)
  · clear b_6
    refine g_bipush (n := 19) hx (dq tX10_appeal 9 rfl) rfl (by decide) ?_
    exact g_iret hx hr (dq tX10_appeal 10 rfl) ⟨by decide, by decide⟩ ⟨(fun _ _ _ => rfl), gm, rl⟩
  · have b_6 := b_6.resolve_left c_10
    obtain ⟨-, h_7, h_8, h_9⟩ := b_6
    refine g_aload_n (n := 9) hx 0 (dq tX10_appeal 4 rfl) rfl rfl ?_
    refine g_getR (n := 12) hx glX10_16 (sX10_3 (by decide)) (dq tX10_appeal 5 rfl) rfl ?_
    refine g_iload_n (n := 13) hx 1 (dq tX10_appeal 6 rfl) rfl rfl ?_
    refine g_iald (n := 14) (q := b_.toNat) hx (aX10_3 (b := 229) (by decide)) (dq tX10_appeal 7 rfl) rfl (by omega) (by omega) (by omega) rfl (fun h_11l h_11u => ?_)
    refine g_if_ne (n := 17) (t := 20) hx (dq tX10_appeal 8 rfl) (by decide) rfl (zrI h_11l h_11u (by decide) (by decide)) (fun c_12 => ?_) (fun c_12 => ?_)
    · refine g_aload_n (n := 21) hx 0 (dq tX10_appeal 11 rfl) rfl rfl ?_
      refine g_iload_n (n := 22) hx 1 (dq tX10_appeal 12 rfl) rfl rfl ?_
      refine g_iconst (n := 23) hx (dq tX10_appeal 13 rfl) rfl ?_
      refine g_callVi (n := 26) (As := [vI b_, vI 1]) (rest := []) hx (ctX10_votesOf Γ M b_ (by omega) (by omega) 1 (by decide) (by decide) gm rl) mlX10_502 (obX10 (by decide)) (dq tX10_appeal 14 rfl) rfl (Nat.le_of_ble_eq_true rfl) (Nat.le_of_ble_eq_true rfl) (Nat.le_of_ble_eq_true rfl) rfl (fun z_13 M_14 h_15 p_16 => ?_)
      obtain rfl := p_16
      refine g_callSi (n := 29) (As := [vI z_13]) (rest := []) hx (ctX10_bits Γ M z_13 (by omega) (by omega)) mlX10_210 (dq tX10_appeal 15 rfl) rfl (Nat.le_of_ble_eq_true rfl) (Nat.le_of_ble_eq_true rfl) (Nat.le_of_ble_eq_true rfl) rfl (fun z_18 M_19 h_20 p_21 => ?_)
      obtain rfl := p_21
      refine g_aload_n (n := 30) hx 0 (dq tX10_appeal 16 rfl) rfl rfl ?_
      refine g_iload_n (n := 31) hx 1 (dq tX10_appeal 17 rfl) rfl rfl ?_
      refine g_iconst (n := 32) hx (dq tX10_appeal 18 rfl) rfl ?_
      refine g_callVi (n := 35) (As := [vI b_, vI 0]) (rest := [vI z_18]) hx (ctX10_votesOf Γ M b_ (by omega) (by omega) 0 (by decide) (by decide) gm rl) mlX10_502 (obX10 (by decide)) (dq tX10_appeal 19 rfl) rfl (Nat.le_of_ble_eq_true rfl) (Nat.le_of_ble_eq_true rfl) (Nat.le_of_ble_eq_true rfl) rfl (fun z_23 M_24 h_25 p_26 => ?_)
      obtain rfl := p_26
      refine g_callSi (n := 38) (As := [vI z_23]) (rest := [vI z_18]) hx (ctX10_bits Γ M z_23 (by omega) (by omega)) mlX10_210 (dq tX10_appeal 20 rfl) rfl (Nat.le_of_ble_eq_true rfl) (Nat.le_of_ble_eq_true rfl) (Nat.le_of_ble_eq_true rfl) rfl (fun z_28 M_29 h_30 p_31 => ?_)
      obtain rfl := p_31
      have J_35 : ∀ (j_34 : Int),  (0 ≤ j_34) → (j_34 ≤ 1) → G Γ x 3 (QI Γ x (qctX10_appeal M b_)) M 46 [(0, aR Γ 229), (1, vI b_)] [vI j_34] := by
        intro j_34 h_36 h_37
        refine g_istore_n (n := 47) (lv' := [(2, vI j_34), (0, aR Γ 229), (1, vI b_)]) hx (dq tX10_appeal 25 rfl) (by decide) rfl rfl ?_
        refine g_aload_n (n := 48) hx 1 (dq tX10_appeal 26 rfl) rfl rfl ?_
        refine g_getR (n := 51) hx glX10_16 (sX10_3 (by decide)) (dq tX10_appeal 27 rfl) rfl ?_
        refine g_iload_n (n := 52) hx 2 (dq tX10_appeal 28 rfl) rfl rfl ?_
        refine g_dup2 (n := 53) hx (dq tX10_appeal 29 rfl) rfl rfl rfl ?_
        refine g_iald (n := 54) (q := b_.toNat) hx (aX10_3 (b := 229) (by decide)) (dq tX10_appeal 30 rfl) rfl (by omega) (by omega) (by omega) rfl (fun h_38l h_38u => ?_)
        refine g_iload_n (n := 55) hx 0 (dq tX10_appeal 31 rfl) rfl rfl ?_
        refine g_if_eq (n := 58) (t := 62) hx (dq tX10_appeal 32 rfl) (by decide) rfl ⟨by omega, by omega⟩ (fun c_39 => ?_) (fun c_39 => ?_)
        · refine g_iconst (n := 63) hx (dq tX10_appeal 35 rfl) rfl ?_
          refine g_isub (n := 64) hx (dq tX10_appeal 36 rfl) rfl ?_
          refine g_iast (n := 65) (q := b_.toNat) hx (aX10_3 (b := 229) (by decide)) (dq tX10_appeal 37 rfl) rfl (by omega) (by omega) (by omega) rfl (by omega) (by omega) (fun M_40 m_41e m_41 => ?_)
          have g_42 : Gm M_40 := Gm.frame gm (fun c j hcj => m_41 c j (by omega))
          have g_43 : Rl M_40 := Rl.frame rl (fun c j hcj => m_41 c j (by omega))
          refine g_iload_n (n := 66) hx 0 (dq tX10_appeal 38 rfl) rfl rfl ?_
          refine g_if_eq (n := 69) (t := 73) hx (dq tX10_appeal 39 rfl) (by decide) rfl ⟨by omega, by omega⟩ (fun c_44 => ?_) (fun c_44 => ?_)
          · refine g_iconst (n := 74) hx (dq tX10_appeal 42 rfl) rfl ?_
            have e_45 : M_40 (229 + 1) 1 = M (229 + 1) 1 := (m_41 (229 + 1) 1 (by omega))
            have e_46 : M_40 (229 + 1) 3 = M (229 + 1) 3 := (m_41 (229 + 1) 3 (by omega))
            exact g_iret hx hr (dq tX10_appeal 43 rfl) ⟨by decide, by decide⟩ ⟨(fun u_ v_ huv_ => (m_41 u_ v_ (by omega))), g_42, g_43⟩
          · omega
        · refine g_iconst (n := 59) hx (dq tX10_appeal 33 rfl) rfl ?_
          refine g_goto (n := 63) hx (dq tX10_appeal 34 rfl) (by decide) ?_
          refine g_isub (n := 64) hx (dq tX10_appeal 36 rfl) rfl ?_
          refine g_any (fun z_47 h_48 => ?_)
          refine g_iast (n := 65) (q := b_.toNat) hx (aX10_3 (b := 229) (by decide)) (dq tX10_appeal 37 rfl) rfl (by omega) (by omega) (by omega) rfl (by omega) (by omega) (fun M_49 m_50e m_50 => ?_)
          have g_51 : Gm M_49 := Gm.frame gm (fun c j hcj => m_50 c j (by omega))
          have g_52 : Rl M_49 := Rl.frame rl (fun c j hcj => m_50 c j (by omega))
          refine g_iload_n (n := 66) hx 0 (dq tX10_appeal 38 rfl) rfl rfl ?_
          refine g_if_eq (n := 69) (t := 73) hx (dq tX10_appeal 39 rfl) (by decide) rfl ⟨by omega, by omega⟩ (fun c_53 => ?_) (fun c_53 => ?_)
          · omega
          · refine g_iconst (n := 70) hx (dq tX10_appeal 40 rfl) rfl ?_
            refine g_goto (n := 74) hx (dq tX10_appeal 41 rfl) (by decide) ?_
            have e_54 : M_49 (229 + 1) 1 = M (229 + 1) 1 := (m_50 (229 + 1) 1 (by omega))
            have e_55 : M_49 (229 + 1) 3 = M (229 + 1) 3 := (m_50 (229 + 1) 3 (by omega))
            exact g_iret hx hr (dq tX10_appeal 43 rfl) ⟨by decide, by decide⟩ ⟨(fun u_ v_ huv_ => (m_50 u_ v_ (by omega))), g_51, g_52⟩
      refine g_icmp_le (n := 41) (t := 45) hx (dq tX10_appeal 21 rfl) (by decide) rfl h_20 h_30 (fun c_33 => ?_) (fun c_33 => ?_)
      · refine g_iconst (n := 46) hx (dq tX10_appeal 24 rfl) rfl ?_
        exact J_35 0 (by omega) (by omega)
      · refine g_iconst (n := 42) hx (dq tX10_appeal 22 rfl) rfl ?_
        refine g_goto (n := 46) hx (dq tX10_appeal 23 rfl) (by decide) ?_
        exact J_35 1 (by omega) (by omega)
    · refine g_bipush (n := 19) hx (dq tX10_appeal 9 rfl) rfl (by decide) ?_
      exact g_iret hx hr (dq tX10_appeal 10 rfl) ⟨by decide, by decide⟩ ⟨(fun _ _ _ => rfl), gm, rl⟩

abbrev qctX10_burn (M : zM) (l : Int) (z : Int) (M' : zM) : Prop := (∀ u_ v_, u_ ≠ 229 + 8 ∧ u_ ≠ 229 + 12 → M' u_ v_ = M u_ v_) ∧ Gm M' ∧ Rl M'
set_option maxHeartbeats 4000000 in
set_option maxRecDepth 100000 in
theorem ctX10_burn (Γ : Gam) (M : zM) (l : Int) (hll : (-2147483648) ≤ l) (hlu : l ≤ 2147483647) (gm : Gm M) (rl : Rl M) : CtI Γ yX10_burn cX10_burn 3 (some .int) 7 166 [aR Γ 229, vI l] M (qctX10_burn M l) := by
  refine met_i (by decide) (Nat.le_of_ble_eq_true rfl) (fun x hx hr => ?_)
  show G Γ x 3 (QI Γ x (qctX10_burn M l)) M 0 [(0, aR Γ 229), (1, vI l)] []
  refine g_aload_n (n := 1) hx 0 (dq tX10_burn 0 rfl) rfl rfl ?_
  refine g_iload_n (n := 2) hx 1 (dq tX10_burn 1 rfl) rfl rfl ?_
  refine g_callVi (n := 5) (As := [vI l]) (rest := []) hx (ctX10_isLog Γ M l (by omega) (by omega)) mlX10_483 (obX10 (by decide)) (dq tX10_burn 2 rfl) rfl (Nat.le_of_ble_eq_true rfl) (Nat.le_of_ble_eq_true rfl) (Nat.le_of_ble_eq_true rfl) rfl (fun z_1 M_2 h_3 p_4 => ?_)
  obtain ⟨rfl, b_6⟩ := p_4
  refine g_if_eq (n := 8) (t := 16) hx (dq tX10_burn 3 rfl) (by decide) rfl h_3 (fun c_10 => ?_) (fun c_10 => ?_)
  · clear b_6
    refine g_bipush (n := 18) hx (dq tX10_burn 8 rfl) rfl (by decide) ?_
    exact g_iret hx hr (dq tX10_burn 9 rfl) ⟨by decide, by decide⟩ ⟨(fun _ _ _ => rfl), gm, rl⟩
  · have b_6 := b_6.resolve_left c_10
    obtain ⟨-, h_7, h_8, h_9⟩ := b_6
    refine g_aload_n (n := 9) hx 0 (dq tX10_burn 4 rfl) rfl rfl ?_
    refine g_iload_n (n := 10) hx 1 (dq tX10_burn 5 rfl) rfl rfl ?_
    refine g_callVi (n := 13) (As := [vI l]) (rest := []) hx (ctX10_isAshore Γ M l (by omega) (by omega)) mlX10_203 (obX10 (by decide)) (dq tX10_burn 6 rfl) rfl (Nat.le_of_ble_eq_true rfl) (Nat.le_of_ble_eq_true rfl) (Nat.le_of_ble_eq_true rfl) rfl (fun z_11 M_12 h_13 p_14 => ?_)
    obtain ⟨rfl, b_16, h_17⟩ := p_14
    refine g_if_ne (n := 16) (t := 19) hx (dq tX10_burn 7 rfl) (by decide) rfl h_13 (fun c_20 => ?_) (fun c_20 => ?_)
    · have b_16 := b_16.resolve_left c_20
      obtain ⟨-, h_18, h_19⟩ := b_16
      refine g_aload_n (n := 20) hx 0 (dq tX10_burn 10 rfl) rfl rfl ?_
      refine g_iload_n (n := 21) hx 1 (dq tX10_burn 11 rfl) rfl rfl ?_
      refine g_callVi (n := 24) (As := [vI l]) (rest := []) hx (ctX10_priceOf Γ M l (by omega) (by omega) (by omega) gm) mlX10_486 (obX10 (by decide)) (dq tX10_burn 12 rfl) rfl (Nat.le_of_ble_eq_true rfl) (Nat.le_of_ble_eq_true rfl) (Nat.le_of_ble_eq_true rfl) rfl (fun z_21 M_22 h_23 p_24 => ?_)
      obtain rfl := p_24
      refine g_istore_n (n := 25) (lv' := [(2, vI z_21), (0, aR Γ 229), (1, vI l)]) hx (dq tX10_burn 13 rfl) (by decide) rfl rfl ?_
      refine g_aload_n (n := 26) hx 1 (dq tX10_burn 14 rfl) rfl rfl ?_
      refine g_aload_n (n := 27) hx 1 (dq tX10_burn 15 rfl) rfl rfl ?_
      refine g_getR (n := 30) hx glX10_43 (sX10_12 (by decide)) (dq tX10_burn 16 rfl) rfl ?_
      refine g_iload_n (n := 31) hx 2 (dq tX10_burn 17 rfl) rfl rfl ?_
      refine g_iald (n := 32) (q := l.toNat) hx (aX10_12 (b := 229) (by decide)) (dq tX10_burn 18 rfl) rfl (by omega) (by omega) (by omega) rfl (fun h_26l h_26u => ?_)
      refine g_iv (fun h_28 => ?_)
      have h_28v : (0 : Int) ≤ M (229 + 1) 1 ∧ M (229 + 1) 1 ≤ 6 := h_28 230 1
      have h_28l : (0 : Int) ≤ M (229 + 1) 3 ∧ M (229 + 1) 3 ≤ 12 := h_28 230 3
      clear h_28
      have h_27 := gm.2.2.1 l.toNat (by omega)
      have h_27s := PlOk.shore h_27
      have h_27w := PlOk.water h_27
      have h_27r := PlOk.rg h_27 (by omega)
      clear h_27
      refine g_bipush (n := 34) hx (dq tX10_burn 19 rfl) rfl (by decide) ?_
      refine g_isub (n := 35) hx (dq tX10_burn 20 rfl) rfl ?_
      refine g_aload_n (n := 36) hx 1 (dq tX10_burn 21 rfl) rfl rfl ?_
      refine g_iload_n (n := 37) hx 2 (dq tX10_burn 22 rfl) rfl rfl ?_
      refine g_callVi (n := 40) (As := [vI l]) (rest := [vI ((M (229 + 12) l.toNat) - 20), aR Γ 229]) hx (ctX10_ownerOf Γ M l (by omega) (by omega) (by omega) gm rl) mlX10_464 (obX10 (by decide)) (dq tX10_burn 23 rfl) rfl (Nat.le_of_ble_eq_true rfl) (Nat.le_of_ble_eq_true rfl) (Nat.le_of_ble_eq_true rfl) rfl (fun z_29 M_30 h_31 p_32 => ?_)
      obtain ⟨rfl, h_34, h_35⟩ := p_32
      refine g_iload_n (n := 41) hx 0 (dq tX10_burn 24 rfl) rfl rfl ?_
      refine g_callVv (n := 44) (As := [vI ((M (229 + 12) l.toNat) - 20), vI z_29, vI z_21]) (rest := []) hx (ctX10_owes1 Γ M ((M (229 + 12) l.toNat) - 20) (by omega) (by omega) z_29 (by omega) (by omega) z_21 (by omega) (by omega)) mlX10_498 (obX10 (by decide)) (dq tX10_burn 25 rfl) rfl (Nat.le_of_ble_eq_true rfl) (Nat.le_of_ble_eq_true rfl) (Nat.le_of_ble_eq_true rfl) rfl (fun M_37 p_39 => ?_)
      have f_40 := p_39
      have g_41 : Gm M_37 := Gm.frame gm (fun c j hcj => f_40 c j (by omega))
      have g_42 : Rl M_37 := Rl.frame rl (fun c j hcj => f_40 c j (by omega))
      refine g_aload_n (n := 45) hx 1 (dq tX10_burn 26 rfl) rfl rfl ?_
      refine g_getR (n := 48) hx glX10_43 (sX10_12 (by decide)) (dq tX10_burn 27 rfl) rfl ?_
      refine g_iload_n (n := 49) hx 2 (dq tX10_burn 28 rfl) rfl rfl ?_
      refine g_bipush (n := 51) hx (dq tX10_burn 29 rfl) rfl (by decide) ?_
      have e_43 : M_37 (229 + 1) 1 = M (229 + 1) 1 := (f_40 (229 + 1) 1 (by omega))
      have e_44 : M_37 (229 + 1) 3 = M (229 + 1) 3 := (f_40 (229 + 1) 3 (by omega))
      refine g_iast (n := 52) (q := l.toNat) hx (aX10_12 (b := 229) (by decide)) (dq tX10_burn 30 rfl) rfl (by omega) (by omega) (by omega) rfl (by omega) (by omega) (fun M_45 m_46e m_46 => ?_)
      have g_47 := Gm.place g_41 m_46e m_46 (by unfold PlOk; omega)
      have g_48 : Rl M_45 := Rl.frame g_42 (fun c j hcj => m_46 c j (by omega))
      refine g_iload_n (n := 53) hx 0 (dq tX10_burn 31 rfl) rfl rfl ?_
      have e_49 : M_45 (229 + 1) 1 = M_37 (229 + 1) 1 := (m_46 (229 + 1) 1 (by omega))
      have e_50 : M_45 (229 + 1) 3 = M_37 (229 + 1) 3 := (m_46 (229 + 1) 3 (by omega))
      exact g_iret hx hr (dq tX10_burn 32 rfl) h_23 ⟨(fun u_ v_ huv_ => ((m_46 u_ v_ (by omega)).trans (f_40 u_ v_ (by omega)))), g_47, g_48⟩
    · clear b_16
      refine g_bipush (n := 18) hx (dq tX10_burn 8 rfl) rfl (by decide) ?_
      exact g_iret hx hr (dq tX10_burn 9 rfl) ⟨by decide, by decide⟩ ⟨(fun _ _ _ => rfl), gm, rl⟩

abbrev qctX10_placeInOrder (M : zM) (l : Int) (z : Int) (M' : zM) : Prop := M = M' ∧ 0 ≤ z ∧ z ≤ 11 ∧ (z < M (229 + 1) 3) ∧ (M (229 + 17) z.toNat = l)
set_option maxHeartbeats 4000000 in
set_option maxRecDepth 100000 in
theorem ctX10_placeInOrder (Γ : Gam) (M : zM) (l : Int) (hll : 0 ≤ l) (hlu : l ≤ 11) (pre0 : l < M (229 + 1) 3) (on : On M) : CtI Γ yX10_placeInOrder cX10_placeInOrder 3 (some .int) 0 0 [aR Γ 229, vI l] M (qctX10_placeInOrder M l) := by
  refine met_i (by decide) (Nat.le_of_ble_eq_true rfl) (fun x hx hr => ?_)
  show G Γ x 3 (QI Γ x (qctX10_placeInOrder M l)) M 0 [(0, aR Γ 229), (1, vI l)] []
  refine g_iv (fun hI_1 => ?_)
  have hI_13 : (0 : Int) ≤ M (229 + 1) 3 ∧ M (229 + 1) 3 ≤ 12 := hI_1 230 3
  clear hI_1
  refine g_iconst (n := 1) hx (dq tX10_placeInOrder 0 rfl) rfl ?_
  refine g_istore_n (n := 2) (lv' := [(2, vI 0), (0, aR Γ 229), (1, vI l)]) hx (dq tX10_placeInOrder 1 rfl) (by decide) rfl rfl ?_
  have L_3 : ∀ (n_ : Nat) (i_2 : Int), (0 ≤ i_2) → (i_2 ≤ 12) → (Pn M l i_2) → (i_2 < M (229 + 1) 3) → ((13 - i_2).toNat = n_) → G Γ x 3 (QI Γ x (qctX10_placeInOrder M l)) M 2 [(2, vI i_2), (0, aR Γ 229), (1, vI l)] [] := by
    intro n_
    induction n_ using Nat.strongRecOn with
    | _ n_ ih_4 =>
      intro i_2 h_9 h_10 h_7 h_8 hm_6
      refine g_aload_n (n := 3) hx 1 (dq tX10_placeInOrder 2 rfl) rfl rfl ?_
      refine g_getR (n := 6) hx glX10_58 (sX10_17 (by decide)) (dq tX10_placeInOrder 3 rfl) rfl ?_
      refine g_iload_n (n := 7) hx 0 (dq tX10_placeInOrder 4 rfl) rfl rfl ?_
      refine g_iald (n := 8) (q := i_2.toNat) hx (aX10_17 (b := 229) (by decide)) (dq tX10_placeInOrder 5 rfl) rfl (by omega) (by omega) (by omega) rfl (fun h_11l h_11u => ?_)
      refine g_iload_n (n := 9) hx 2 (dq tX10_placeInOrder 6 rfl) rfl rfl ?_
      refine g_icmp_eq (n := 12) (t := 18) hx (dq tX10_placeInOrder 7 rfl) (by decide) rfl (zrI h_11l h_11u (by decide) (by decide)) (zrI hll hlu (by decide) (by decide)) (fun c_12 => ?_) (fun c_12 => ?_)
      · refine g_iload_n (n := 19) hx 0 (dq tX10_placeInOrder 10 rfl) rfl rfl ?_
        exact g_iret hx hr (dq tX10_placeInOrder 11 rfl) ⟨by omega, by omega⟩ ⟨rfl, (by omega), (by omega), (by omega), (by omega)⟩
      · refine g_iinc (n := 15) (lv' := [(2, vI (i_2 + 1)), (0, aR Γ 229), (1, vI l)]) hx 0 (dq tX10_placeInOrder 8 rfl) rfl (by decide) rfl rfl ?_
        refine g_goto (n := 2) hx (dq tX10_placeInOrder 9 rfl) (by decide) ?_
        exact ih_4 _ (by omega) (i_2 + 1) (by omega) (by omega) (Pn.go h_7 (by omega) (by omega)) (Pn.lt (Pn.go h_7 (by omega) (by omega)) on hll (by omega)) rfl
  exact L_3 _ 0 (by omega) (by omega) Pn.nil (Pn.lt Pn.nil on hll (by omega)) rfl

abbrev qctX10_log (M : zM) (l : Int) (what : Int) (z : Int) (M' : zM) : Prop := M = M'
set_option maxHeartbeats 4000000 in
set_option maxRecDepth 100000 in
theorem ctX10_log (Γ : Gam) (M : zM) (l : Int) (hll : (-2147483648) ≤ l) (hlu : l ≤ 2147483647) (what : Int) (hwhatl : (-2147483648) ≤ what) (hwhatu : what ≤ 2147483647) (gm : Gm M) (rl : Rl M) (on : On M) : CtI Γ yX10_log cX10_log 3 (some .int) 7 166 [aR Γ 229, vI l, vI what] M (qctX10_log M l what) := by
  refine met_i (by decide) (Nat.le_of_ble_eq_true rfl) (fun x hx hr => ?_)
  show G Γ x 3 (QI Γ x (qctX10_log M l what)) M 0 [(0, aR Γ 229), (1, vI l), (2, vI what)] []
  refine g_aload_n (n := 1) hx 0 (dq tX10_log 0 rfl) rfl rfl ?_
  refine g_iload_n (n := 2) hx 1 (dq tX10_log 1 rfl) rfl rfl ?_
  refine g_callVi (n := 5) (As := [vI l]) (rest := []) hx (ctX10_isLog Γ M l (by omega) (by omega)) mlX10_483 (obX10 (by decide)) (dq tX10_log 2 rfl) rfl (Nat.le_of_ble_eq_true rfl) (Nat.le_of_ble_eq_true rfl) (Nat.le_of_ble_eq_true rfl) rfl (fun z_1 M_2 h_3 p_4 => ?_)
  obtain ⟨rfl, b_6⟩ := p_4
  refine g_if_ne (n := 8) (t := 11) hx (dq tX10_log 3 rfl) (by decide) rfl h_3 (fun c_10 => ?_) (fun c_10 => ?_)
  · have b_6 := b_6.resolve_left c_10
    obtain ⟨-, h_7, h_8, h_9⟩ := b_6
    refine g_iload_n (n := 12) hx 2 (dq tX10_log 6 rfl) rfl rfl ?_
    by_cases c_11 : what = 0
    · refine g_swI (t := 72) hx (dq tX10_log 7 rfl) c_11 (by decide) (by decide) rfl (by decide) ?_
      refine g_aload_n (n := 73) hx 0 (dq tX10_log 8 rfl) rfl rfl ?_
      refine g_getR (n := 76) hx glX10_34 (sX10_9 (by decide)) (dq tX10_log 9 rfl) rfl ?_
      refine g_iload_n (n := 77) hx 1 (dq tX10_log 10 rfl) rfl rfl ?_
      refine g_iald (n := 78) (q := l.toNat) hx (aX10_9 (b := 229) (by decide)) (dq tX10_log 11 rfl) rfl (by omega) (by omega) (by omega) rfl (fun h_12l h_12u => ?_)
      exact g_iret hx hr (dq tX10_log 12 rfl) (zrI h_12l h_12u (by decide) (by decide)) rfl
    by_cases c_13 : what = 1
    · refine g_swI (t := 79) hx (dq tX10_log 7 rfl) c_13 (by decide) (by decide) rfl (by decide) ?_
      refine g_aload_n (n := 80) hx 0 (dq tX10_log 13 rfl) rfl rfl ?_
      refine g_getR (n := 83) hx glX10_37 (sX10_10 (by decide)) (dq tX10_log 14 rfl) rfl ?_
      refine g_iload_n (n := 84) hx 1 (dq tX10_log 15 rfl) rfl rfl ?_
      refine g_iald (n := 85) (q := l.toNat) hx (aX10_10 (b := 229) (by decide)) (dq tX10_log 16 rfl) rfl (by omega) (by omega) (by omega) rfl (fun h_14l h_14u => ?_)
      exact g_iret hx hr (dq tX10_log 17 rfl) (zrI h_14l h_14u (by decide) (by decide)) rfl
    by_cases c_15 : what = 2
    · refine g_swI (t := 86) hx (dq tX10_log 7 rfl) c_15 (by decide) (by decide) rfl (by decide) ?_
      refine g_aload_n (n := 87) hx 0 (dq tX10_log 18 rfl) rfl rfl ?_
      refine g_getR (n := 90) hx glX10_40 (sX10_11 (by decide)) (dq tX10_log 19 rfl) rfl ?_
      refine g_iload_n (n := 91) hx 1 (dq tX10_log 20 rfl) rfl rfl ?_
      refine g_iald (n := 92) (q := l.toNat) hx (aX10_11 (b := 229) (by decide)) (dq tX10_log 21 rfl) rfl (by omega) (by omega) (by omega) rfl (fun h_16l h_16u => ?_)
      exact g_iret hx hr (dq tX10_log 22 rfl) (zrI h_16l h_16u (by decide) (by decide)) rfl
    by_cases c_17 : what = 3
    · refine g_swI (t := 93) hx (dq tX10_log 7 rfl) c_17 (by decide) (by decide) rfl (by decide) ?_
      refine g_aload_n (n := 94) hx 0 (dq tX10_log 23 rfl) rfl rfl ?_
      refine g_getR (n := 97) hx glX10_43 (sX10_12 (by decide)) (dq tX10_log 24 rfl) rfl ?_
      refine g_iload_n (n := 98) hx 1 (dq tX10_log 25 rfl) rfl rfl ?_
      refine g_iald (n := 99) (q := l.toNat) hx (aX10_12 (b := 229) (by decide)) (dq tX10_log 26 rfl) rfl (by omega) (by omega) (by omega) rfl (fun h_18l h_18u => ?_)
      exact g_iret hx hr (dq tX10_log 27 rfl) (zrI h_18l h_18u (by decide) (by decide)) rfl
    by_cases c_19 : what = 4
    · refine g_swI (t := 100) hx (dq tX10_log 7 rfl) c_19 (by decide) (by decide) rfl (by decide) ?_
      refine g_aload_n (n := 101) hx 0 (dq tX10_log 28 rfl) rfl rfl ?_
      refine g_getR (n := 104) hx glX10_46 (sX10_13 (by decide)) (dq tX10_log 29 rfl) rfl ?_
      refine g_iload_n (n := 105) hx 1 (dq tX10_log 30 rfl) rfl rfl ?_
      refine g_iald (n := 106) (q := l.toNat) hx (aX10_13 (b := 229) (by decide)) (dq tX10_log 31 rfl) rfl (by omega) (by omega) (by omega) rfl (fun h_20l h_20u => ?_)
      exact g_iret hx hr (dq tX10_log 32 rfl) (zrI h_20l h_20u (by decide) (by decide)) rfl
    by_cases c_21 : what = 5
    · refine g_swI (t := 107) hx (dq tX10_log 7 rfl) c_21 (by decide) (by decide) rfl (by decide) ?_
      refine g_aload_n (n := 108) hx 0 (dq tX10_log 33 rfl) rfl rfl ?_
      refine g_iload_n (n := 109) hx 1 (dq tX10_log 34 rfl) rfl rfl ?_
      refine g_callVi (n := 112) (As := [vI l]) (rest := []) hx (ctX10_ownerOf Γ M l (by omega) (by omega) (by omega) gm rl) mlX10_464 (obX10 (by decide)) (dq tX10_log 35 rfl) rfl (Nat.le_of_ble_eq_true rfl) (Nat.le_of_ble_eq_true rfl) (Nat.le_of_ble_eq_true rfl) rfl (fun z_22 M_23 h_24 p_25 => ?_)
      obtain ⟨rfl, h_27, h_28⟩ := p_25
      exact g_iret hx hr (dq tX10_log 36 rfl) h_24 rfl
    by_cases c_29 : what = 6
    · refine g_swI (t := 113) hx (dq tX10_log 7 rfl) c_29 (by decide) (by decide) rfl (by decide) ?_
      refine g_aload_n (n := 114) hx 0 (dq tX10_log 37 rfl) rfl rfl ?_
      refine g_iload_n (n := 115) hx 1 (dq tX10_log 38 rfl) rfl rfl ?_
      refine g_callVi (n := 118) (As := [vI l]) (rest := []) hx (ctX10_priceOf Γ M l (by omega) (by omega) (by omega) gm) mlX10_486 (obX10 (by decide)) (dq tX10_log 39 rfl) rfl (Nat.le_of_ble_eq_true rfl) (Nat.le_of_ble_eq_true rfl) (Nat.le_of_ble_eq_true rfl) rfl (fun z_30 M_31 h_32 p_33 => ?_)
      obtain rfl := p_33
      exact g_iret hx hr (dq tX10_log 40 rfl) h_32 rfl
    by_cases c_35 : what = 7
    · refine g_swI (t := 119) hx (dq tX10_log 7 rfl) c_35 (by decide) (by decide) rfl (by decide) ?_
      refine g_aload_n (n := 120) hx 0 (dq tX10_log 41 rfl) rfl rfl ?_
      refine g_getR (n := 123) hx glX10_49 (sX10_14 (by decide)) (dq tX10_log 42 rfl) rfl ?_
      refine g_iload_n (n := 124) hx 1 (dq tX10_log 43 rfl) rfl rfl ?_
      refine g_iald (n := 125) (q := l.toNat) hx (aX10_14 (b := 229) (by decide)) (dq tX10_log 44 rfl) rfl (by omega) (by omega) (by omega) rfl (fun h_36l h_36u => ?_)
      exact g_iret hx hr (dq tX10_log 45 rfl) (zrI h_36l h_36u (by decide) (by decide)) rfl
    by_cases c_37 : what = 8
    · refine g_swI (t := 126) hx (dq tX10_log 7 rfl) c_37 (by decide) (by decide) rfl (by decide) ?_
      refine g_aload_n (n := 127) hx 0 (dq tX10_log 46 rfl) rfl rfl ?_
      refine g_getR (n := 130) hx glX10_52 (sX10_15 (by decide)) (dq tX10_log 47 rfl) rfl ?_
      refine g_iload_n (n := 131) hx 1 (dq tX10_log 48 rfl) rfl rfl ?_
      refine g_iald (n := 132) (q := l.toNat) hx (aX10_15 (b := 229) (by decide)) (dq tX10_log 49 rfl) rfl (by omega) (by omega) (by omega) rfl (fun h_38l h_38u => ?_)
      exact g_iret hx hr (dq tX10_log 50 rfl) (zrI h_38l h_38u (by decide) (by decide)) rfl
    by_cases c_39 : what = 9
    · refine g_swI (t := 133) hx (dq tX10_log 7 rfl) c_39 (by decide) (by decide) rfl (by decide) ?_
      refine g_aload_n (n := 134) hx 0 (dq tX10_log 51 rfl) rfl rfl ?_
      refine g_iload_n (n := 135) hx 1 (dq tX10_log 52 rfl) rfl rfl ?_
      refine g_callVi (n := 138) (As := [vI l]) (rest := []) hx (ctX10_placeInOrder Γ M l (by omega) (by omega) (by omega) on) mlX10_489 (obX10 (by decide)) (dq tX10_log 53 rfl) rfl (Nat.le_of_ble_eq_true rfl) (Nat.le_of_ble_eq_true rfl) (Nat.le_of_ble_eq_true rfl) rfl (fun z_40 M_41 h_42 p_43 => ?_)
      obtain ⟨rfl, h_45, h_46, h_47, h_48⟩ := p_43
      exact g_iret hx hr (dq tX10_log 54 rfl) h_42 rfl
    by_cases c_49 : what = 10
    · refine g_swI (t := 139) hx (dq tX10_log 7 rfl) c_49 (by decide) (by decide) rfl (by decide) ?_
      refine g_aload_n (n := 140) hx 0 (dq tX10_log 55 rfl) rfl rfl ?_
      refine g_getR (n := 143) hx glX10_55 (sX10_16 (by decide)) (dq tX10_log 56 rfl) rfl ?_
      refine g_iload_n (n := 144) hx 1 (dq tX10_log 57 rfl) rfl rfl ?_
      refine g_iald (n := 145) (q := l.toNat) hx (aX10_16 (b := 229) (by decide)) (dq tX10_log 58 rfl) rfl (by omega) (by omega) (by omega) rfl (fun h_50l h_50u => ?_)
      exact g_iret hx hr (dq tX10_log 59 rfl) (zrI h_50l h_50u (by decide) (by decide)) rfl
    refine g_swO (t := 146) hx (dq tX10_log 7 rfl) (zrI hwhatl hwhatu (by decide) (by decide)) (by omega) (by decide) ?_
    refine g_bipush (n := 148) hx (dq tX10_log 60 rfl) rfl (by decide) ?_
    exact g_iret hx hr (dq tX10_log 61 rfl) ⟨by decide, by decide⟩ rfl
  · clear b_6
    refine g_bipush (n := 10) hx (dq tX10_log 4 rfl) rfl (by decide) ?_
    exact g_iret hx hr (dq tX10_log 5 rfl) ⟨by decide, by decide⟩ rfl
