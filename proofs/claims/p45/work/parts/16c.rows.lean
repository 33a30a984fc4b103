abbrev qctX9_kin (M : zM) (one : Int) (other : Int) (z : Int) (M' : zM) : Prop := M = M'
set_option maxHeartbeats 4000000 in
set_option maxRecDepth 100000 in
theorem ctX9_kin (Γ : Gam) (M : zM) (one : Int) (honel : (-2147483648) ≤ one) (honeu : one ≤ 2147483647) (other : Int) (hotherl : (-2147483648) ≤ other) (hotheru : other ≤ 2147483647) (gd0 : Gd M 37 (45 + 1)) : CtI Γ yX9_kin cX9_kin 5 (some .int) 1 23 [aR Γ 0, vI one, vI other] M (qctX9_kin M one other) := by
  refine met_i (by decide) (Nat.le_of_ble_eq_true rfl) (fun x hx hr => ?_)
  show G Γ x 5 (QI Γ x (qctX9_kin M one other)) M 0 [(0, aR Γ 0), (1, vI one), (2, vI other)] []
  refine g_aload_n (n := 1) hx 0 (dq tX9_kin 0 rfl) rfl rfl ?_
  refine g_iload_n (n := 2) hx 1 (dq tX9_kin 1 rfl) rfl rfl ?_
  refine g_callVi (n := 5) (As := [vI one]) (rest := []) hx (ctX9_isLog Γ M one (by omega) (by omega)) mlX9_180 (obX9 (by decide)) (dq tX9_kin 2 rfl) rfl (Nat.le_of_ble_eq_true rfl) (Nat.le_of_ble_eq_true rfl) (Nat.le_of_ble_eq_true rfl) rfl (fun z_1 M_2 h_3 p_4 => ?_)
  obtain ⟨rfl, b_6⟩ := p_4
  refine g_if_eq (n := 8) (t := 16) hx (dq tX9_kin 3 rfl) (by decide) rfl h_3 (fun c_10 => ?_) (fun c_10 => ?_)
  · clear b_6
    refine g_iconst (n := 17) hx (dq tX9_kin 8 rfl) rfl ?_
    exact g_iret hx hr (dq tX9_kin 9 rfl) ⟨by decide, by decide⟩ rfl
  · have b_6 := b_6.resolve_left c_10
    obtain ⟨-, h_7, h_8, h_9⟩ := b_6
    refine g_aload_n (n := 9) hx 0 (dq tX9_kin 4 rfl) rfl rfl ?_
    refine g_iload_n (n := 10) hx 2 (dq tX9_kin 5 rfl) rfl rfl ?_
    refine g_callVi (n := 13) (As := [vI other]) (rest := []) hx (ctX9_isLog Γ M other (by omega) (by omega)) mlX9_180 (obX9 (by decide)) (dq tX9_kin 6 rfl) rfl (Nat.le_of_ble_eq_true rfl) (Nat.le_of_ble_eq_true rfl) (Nat.le_of_ble_eq_true rfl) rfl (fun z_11 M_12 h_13 p_14 => ?_)
    obtain ⟨rfl, b_16⟩ := p_14
    refine g_if_ne (n := 16) (t := 18) hx (dq tX9_kin 7 rfl) (by decide) rfl h_13 (fun c_20 => ?_) (fun c_20 => ?_)
    · have b_16 := b_16.resolve_left c_20
      obtain ⟨-, h_17, h_18, h_19⟩ := b_16
      refine g_iconst (n := 19) hx (dq tX9_kin 10 rfl) rfl ?_
      refine g_iload_n (n := 20) hx 1 (dq tX9_kin 11 rfl) rfl rfl ?_
      refine g_ishl1 (n := 21) hx (dq tX9_kin 12 rfl) rfl (by omega) (by omega) ?_
      refine g_nam (fun z_21 h_22 => ?_)
      have h_231 := pw1 (k := 11) (by omega) (by omega) h_22
      obtain ⟨h_232, h_233⟩ := h_231
      refine g_istore_n (n := 22) (lv' := [(3, vI z_21), (0, aR Γ 0), (1, vI one), (2, vI other)]) hx (dq tX9_kin 13 rfl) (by decide) rfl rfl ?_
      refine g_iconst (n := 23) hx (dq tX9_kin 14 rfl) rfl ?_
      refine g_istore (n := 25) (lv' := [(4, vI 0), (3, vI z_21), (0, aR Γ 0), (1, vI one), (2, vI other)]) hx (dq tX9_kin 15 rfl) (by decide) rfl rfl ?_
      have L_26 : ∀ (n_ : Nat) (i_24 : Int) (i_25 : Int), (0 ≤ i_24) → (i_24 ≤ 12) → ((-2147483648) ≤ i_25) → (i_25 ≤ 2147483647) → ((12 - i_24).toNat = n_) → G Γ x 5 (QI Γ x (qctX9_kin M one other)) M 25 [(4, vI i_24), (3, vI i_25), (0, aR Γ 0), (1, vI one), (2, vI other)] [] := by
        intro n_
        induction n_ using Nat.strongRecOn with
        | _ n_ ih_27 =>
          intro i_24 i_25 h_30 h_31 h_32 h_33 hm_29
          refine g_iload (n := 27) hx 0 (dq tX9_kin 16 rfl) rfl rfl ?_
          refine g_bipush (n := 29) hx (dq tX9_kin 17 rfl) rfl (by decide) ?_
          refine g_icmp_ge (n := 32) (t := 62) hx (dq tX9_kin 18 rfl) (by decide) rfl ⟨by omega, by omega⟩ ⟨by decide, by decide⟩ (fun c_34 => ?_) (fun c_34 => ?_)
          · refine g_bipush (n := 64) hx (dq tX9_kin 36 rfl) rfl (by decide) ?_
            exact g_iret hx hr (dq tX9_kin 37 rfl) ⟨by decide, by decide⟩ rfl
          · refine g_iload_n (n := 33) hx 1 (dq tX9_kin 19 rfl) rfl rfl ?_
            refine g_iload_n (n := 34) hx 4 (dq tX9_kin 20 rfl) rfl rfl ?_
            refine g_ishr (n := 35) hx (dq tX9_kin 21 rfl) rfl (fun z_35 h_36 => ?_)
            refine g_iconst (n := 36) hx (dq tX9_kin 22 rfl) rfl ?_
            refine g_iand (n := 37) hx (dq tX9_kin 23 rfl) rfl (fun z_38 h_39 h_401 h_402 => ?_)
            obtain ⟨h_403, h_404⟩ := h_401 (by omega) (by omega)
            clear h_401 h_402
            refine g_iconst (n := 38) hx (dq tX9_kin 24 rfl) rfl ?_
            refine g_icmp_ne (n := 41) (t := 44) hx (dq tX9_kin 25 rfl) (by decide) rfl h_39 ⟨by decide, by decide⟩ (fun c_41 => ?_) (fun c_41 => ?_)
            · refine g_aload_n (n := 45) hx 2 (dq tX9_kin 28 rfl) rfl rfl ?_
              refine g_getR (n := 48) hx glX9_47 (sX9_5 (by decide)) (dq tX9_kin 29 rfl) rfl ?_
              refine g_getR (n := 51) hx glX9_109 (sX8_2 (by decide)) (dq tX9_kin 30 rfl) rfl ?_
              refine g_iload_n (n := 52) hx 1 (dq tX9_kin 31 rfl) rfl rfl ?_
              refine g_callVi (n := 55) (As := [vI i_25]) (rest := []) hx (ctX0_kinOfAll Γ M (45 + 11) (iX8_2 (by decide)) i_25 (by omega) (by omega)) mlX9_332 (obX0 (iX8_2 (by decide))) (dq tX9_kin 32 rfl) rfl (Nat.le_of_ble_eq_true rfl) (Nat.le_of_ble_eq_true rfl) (Nat.le_of_ble_eq_true rfl) rfl (fun z_42 M_43 h_44 p_45 => ?_)
              obtain rfl := p_45
              refine g_istore_n (n := 56) (lv' := [(3, vI z_42), (4, vI i_24), (0, aR Γ 0), (1, vI one), (2, vI other)]) hx (dq tX9_kin 33 rfl) (by decide) rfl rfl ?_
              refine g_iinc (n := 59) (lv' := [(4, vI (i_24 + 1)), (3, vI z_42), (0, aR Γ 0), (1, vI one), (2, vI other)]) hx 1 (dq tX9_kin 34 rfl) rfl (by decide) rfl rfl ?_
              refine g_goto (n := 25) hx (dq tX9_kin 35 rfl) (by decide) ?_
              exact ih_27 _ (by omega) (i_24 + 1) z_42 (by omega) (by omega) (by omega) (by omega) rfl
            · refine g_iload (n := 43) hx 0 (dq tX9_kin 26 rfl) rfl rfl ?_
              exact g_iret hx hr (dq tX9_kin 27 rfl) ⟨by omega, by omega⟩ rfl
      exact L_26 _ 0 z_21 (by omega) (by omega) (by omega) (by omega) rfl
    · clear b_16
      refine g_iconst (n := 17) hx (dq tX9_kin 8 rfl) rfl ?_
      exact g_iret hx hr (dq tX9_kin 9 rfl) ⟨by decide, by decide⟩ rfl

abbrev qctX9_kinOf (M : zM) (log : Int) (z : Int) (M' : zM) : Prop := M = M'
set_option maxHeartbeats 4000000 in
set_option maxRecDepth 100000 in
theorem ctX9_kinOf (Γ : Gam) (M : zM) (log : Int) (hlogl : (-2147483648) ≤ log) (hlogu : log ≤ 2147483647) (gd0 : Gd M 37 (45 + 1)) : CtI Γ yX9_kinOf cX9_kinOf 4 (some .int) 1 23 [aR Γ 0, vI log] M (qctX9_kinOf M log) := by
  refine met_i (by decide) (Nat.le_of_ble_eq_true rfl) (fun x hx hr => ?_)
  show G Γ x 4 (QI Γ x (qctX9_kinOf M log)) M 0 [(0, aR Γ 0), (1, vI log)] []
  refine g_aload_n (n := 1) hx 0 (dq tX9_kinOf 0 rfl) rfl rfl ?_
  refine g_iload_n (n := 2) hx 1 (dq tX9_kinOf 1 rfl) rfl rfl ?_
  refine g_callVi (n := 5) (As := [vI log]) (rest := []) hx (ctX9_isLog Γ M log (by omega) (by omega)) mlX9_180 (obX9 (by decide)) (dq tX9_kinOf 2 rfl) rfl (Nat.le_of_ble_eq_true rfl) (Nat.le_of_ble_eq_true rfl) (Nat.le_of_ble_eq_true rfl) rfl (fun z_1 M_2 h_3 p_4 => ?_)
  obtain ⟨rfl, b_6⟩ := p_4
  refine g_if_ne (n := 8) (t := 10) hx (dq tX9_kinOf 3 rfl) (by decide) rfl h_3 (fun c_10 => ?_) (fun c_10 => ?_)
  · have b_6 := b_6.resolve_left c_10
    obtain ⟨-, h_7, h_8, h_9⟩ := b_6
    refine g_iconst (n := 11) hx (dq tX9_kinOf 6 rfl) rfl ?_
    refine g_iload_n (n := 12) hx 1 (dq tX9_kinOf 7 rfl) rfl rfl ?_
    refine g_ishl1 (n := 13) hx (dq tX9_kinOf 8 rfl) rfl (by omega) (by omega) ?_
    refine g_nam (fun z_11 h_12 => ?_)
    have h_131 := pw1 (k := 11) (by omega) (by omega) h_12
    obtain ⟨h_132, h_133⟩ := h_131
    refine g_istore_n (n := 14) (lv' := [(2, vI z_11), (0, aR Γ 0), (1, vI log)]) hx (dq tX9_kinOf 9 rfl) (by decide) rfl rfl ?_
    refine g_iconst (n := 15) hx (dq tX9_kinOf 10 rfl) rfl ?_
    refine g_istore_n (n := 16) (lv' := [(3, vI 0), (2, vI z_11), (0, aR Γ 0), (1, vI log)]) hx (dq tX9_kinOf 11 rfl) (by decide) rfl rfl ?_
    have L_16 : ∀ (n_ : Nat) (i_14 : Int) (i_15 : Int), (0 ≤ i_14) → (i_14 ≤ 12) → ((-2147483648) ≤ i_15) → (i_15 ≤ 2147483647) → ((12 - i_14).toNat = n_) → G Γ x 4 (QI Γ x (qctX9_kinOf M log)) M 16 [(3, vI i_14), (2, vI i_15), (0, aR Γ 0), (1, vI log)] [] := by
      intro n_
      induction n_ using Nat.strongRecOn with
      | _ n_ ih_17 =>
        intro i_14 i_15 h_20 h_21 h_22 h_23 hm_19
        refine g_iload_n (n := 17) hx 0 (dq tX9_kinOf 12 rfl) rfl rfl ?_
        refine g_bipush (n := 19) hx (dq tX9_kinOf 13 rfl) rfl (by decide) ?_
        refine g_icmp_ge (n := 22) (t := 40) hx (dq tX9_kinOf 14 rfl) (by decide) rfl ⟨by omega, by omega⟩ ⟨by decide, by decide⟩ (fun c_24 => ?_) (fun c_24 => ?_)
        · refine g_iload_n (n := 41) hx 1 (dq tX9_kinOf 23 rfl) rfl rfl ?_
          exact g_iret hx hr (dq tX9_kinOf 24 rfl) ⟨by omega, by omega⟩ rfl
        · refine g_aload_n (n := 23) hx 2 (dq tX9_kinOf 15 rfl) rfl rfl ?_
          refine g_getR (n := 26) hx glX9_47 (sX9_5 (by decide)) (dq tX9_kinOf 16 rfl) rfl ?_
          refine g_getR (n := 29) hx glX9_109 (sX8_2 (by decide)) (dq tX9_kinOf 17 rfl) rfl ?_
          refine g_iload_n (n := 30) hx 1 (dq tX9_kinOf 18 rfl) rfl rfl ?_
          refine g_callVi (n := 33) (As := [vI i_15]) (rest := []) hx (ctX0_kinOfAll Γ M (45 + 11) (iX8_2 (by decide)) i_15 (by omega) (by omega)) mlX9_332 (obX0 (iX8_2 (by decide))) (dq tX9_kinOf 19 rfl) rfl (Nat.le_of_ble_eq_true rfl) (Nat.le_of_ble_eq_true rfl) (Nat.le_of_ble_eq_true rfl) rfl (fun z_25 M_26 h_27 p_28 => ?_)
          obtain rfl := p_28
          refine g_istore_n (n := 34) (lv' := [(2, vI z_25), (3, vI i_14), (0, aR Γ 0), (1, vI log)]) hx (dq tX9_kinOf 20 rfl) (by decide) rfl rfl ?_
          refine g_iinc (n := 37) (lv' := [(3, vI (i_14 + 1)), (2, vI z_25), (0, aR Γ 0), (1, vI log)]) hx 1 (dq tX9_kinOf 21 rfl) rfl (by decide) rfl rfl ?_
          refine g_goto (n := 16) hx (dq tX9_kinOf 22 rfl) (by decide) ?_
          exact ih_17 _ (by omega) (i_14 + 1) z_25 (by omega) (by omega) (by omega) (by omega) rfl
    exact L_16 _ 0 z_11 (by omega) (by omega) (by omega) (by omega) rfl
  · clear b_6
    refine g_iconst (n := 9) hx (dq tX9_kinOf 4 rfl) rfl ?_
    exact g_iret hx hr (dq tX9_kinOf 5 rfl) ⟨by decide, by decide⟩ rfl

abbrev qctX9_was (M : zM) (log : Int) (ago : Int) (z : Int) (M' : zM) : Prop := M = M'
set_option maxHeartbeats 4000000 in
set_option maxRecDepth 100000 in
theorem ctX9_was (Γ : Gam) (M : zM) (log : Int) (hlogl : (-2147483648) ≤ log) (hlogu : log ≤ 2147483647) (ago : Int) (hagol : (-2147483648) ≤ ago) (hagou : ago ≤ 2147483647) (gd0 : Gd M 37 (45 + 1)) : CtI Γ yX9_was cX9_was 3 (some .int) 2 44 [aR Γ 0, vI log, vI ago] M (qctX9_was M log ago) := by
  refine met_i (by decide) (Nat.le_of_ble_eq_true rfl) (fun x hx hr => ?_)
  show G Γ x 3 (QI Γ x (qctX9_was M log ago)) M 0 [(0, aR Γ 0), (1, vI log), (2, vI ago)] []
  refine g_aload_n (n := 1) hx 0 (dq tX9_was 0 rfl) rfl rfl ?_
  refine g_iload_n (n := 2) hx 1 (dq tX9_was 1 rfl) rfl rfl ?_
  refine g_callVi (n := 5) (As := [vI log]) (rest := []) hx (ctX9_isLog Γ M log (by omega) (by omega)) mlX9_180 (obX9 (by decide)) (dq tX9_was 2 rfl) rfl (Nat.le_of_ble_eq_true rfl) (Nat.le_of_ble_eq_true rfl) (Nat.le_of_ble_eq_true rfl) rfl (fun z_1 M_2 h_3 p_4 => ?_)
  obtain ⟨rfl, b_6⟩ := p_4
  refine g_if_eq (n := 8) (t := 24) hx (dq tX9_was 3 rfl) (by decide) rfl h_3 (fun c_10 => ?_) (fun c_10 => ?_)
  · clear b_6
    refine g_bipush (n := 26) hx (dq tX9_was 12 rfl) rfl (by decide) ?_
    exact g_iret hx hr (dq tX9_was 13 rfl) ⟨by decide, by decide⟩ rfl
  · have b_6 := b_6.resolve_left c_10
    obtain ⟨-, h_7, h_8, h_9⟩ := b_6
    refine g_iload_n (n := 9) hx 2 (dq tX9_was 4 rfl) rfl rfl ?_
    refine g_iconst (n := 10) hx (dq tX9_was 5 rfl) rfl ?_
    refine g_icmp_lt (n := 13) (t := 24) hx (dq tX9_was 6 rfl) (by decide) rfl (zrI hagol hagou (by decide) (by decide)) ⟨by decide, by decide⟩ (fun c_11 => ?_) (fun c_11 => ?_)
    · refine g_bipush (n := 26) hx (dq tX9_was 12 rfl) rfl (by decide) ?_
      exact g_iret hx hr (dq tX9_was 13 rfl) ⟨by decide, by decide⟩ rfl
    · refine g_iload_n (n := 14) hx 2 (dq tX9_was 7 rfl) rfl rfl ?_
      refine g_aload_n (n := 15) hx 0 (dq tX9_was 8 rfl) rfl rfl ?_
      refine g_getR (n := 18) hx glX9_47 (sX9_5 (by decide)) (dq tX9_was 9 rfl) rfl ?_
      refine g_callVi (n := 21) (As := []) (rest := [vI ago]) hx (ctX8_daysKept Γ M 45 (by decide)) mlX9_335 (obX8 (by decide)) (dq tX9_was 10 rfl) rfl (Nat.le_of_ble_eq_true rfl) (Nat.le_of_ble_eq_true rfl) (Nat.le_of_ble_eq_true rfl) rfl (fun z_12 M_13 h_14 p_15 => ?_)
      obtain ⟨rfl, h_17, h_18⟩ := p_15
      refine g_icmp_le (n := 24) (t := 27) hx (dq tX9_was 11 rfl) (by decide) rfl (zrI hagol hagou (by decide) (by decide)) h_14 (fun c_19 => ?_) (fun c_19 => ?_)
      · refine g_aload_n (n := 28) hx 0 (dq tX9_was 14 rfl) rfl rfl ?_
        refine g_getR (n := 31) hx glX9_47 (sX9_5 (by decide)) (dq tX9_was 15 rfl) rfl ?_
        refine g_iload_n (n := 32) hx 1 (dq tX9_was 16 rfl) rfl rfl ?_
        refine g_iload_n (n := 33) hx 2 (dq tX9_was 17 rfl) rfl rfl ?_
        refine g_callVi (n := 36) (As := [vI log, vI ago]) (rest := []) hx (ctX8_placeAgo Γ M 45 (by decide) log (by omega) (by omega) ago (by omega) (by omega)) mlX9_338 (obX8 (by decide)) (dq tX9_was 18 rfl) rfl (Nat.le_of_ble_eq_true rfl) (Nat.le_of_ble_eq_true rfl) (Nat.le_of_ble_eq_true rfl) rfl (fun z_20 M_21 h_22 p_23 => ?_)
        obtain rfl := p_23
        exact g_iret hx hr (dq tX9_was 19 rfl) h_22 rfl
      · refine g_bipush (n := 26) hx (dq tX9_was 12 rfl) rfl (by decide) ?_
        exact g_iret hx hr (dq tX9_was 13 rfl) ⟨by decide, by decide⟩ rfl

abbrev qctX9_areKept (M : zM) (log : Int) (from_ : Int) (to_ : Int) (z : Int) (M' : zM) : Prop := M = M' ∧ (z = 0 ∨ (z = 1 ∧ 0 ≤ log ∧ log ≤ 11 ∧ log < M 37 3 ∧ 1 ≤ to_ ∧ to_ ≤ from_ ∧ from_ ≤ 30))
set_option maxHeartbeats 4000000 in
set_option maxRecDepth 100000 in
theorem ctX9_areKept (Γ : Gam) (M : zM) (log : Int) (hlogl : (-2147483648) ≤ log) (hlogu : log ≤ 2147483647) (from_ : Int) (hfrom_l : (-2147483648) ≤ from_) (hfrom_u : from_ ≤ 2147483647) (to_ : Int) (hto_l : (-2147483648) ≤ to_) (hto_u : to_ ≤ 2147483647)  : CtI Γ yX9_areKept cX9_areKept 4 (some .boolean) 2 34 [aR Γ 0, vI log, vI from_, vI to_] M (qctX9_areKept M log from_ to_) := by
  refine met_i (by decide) (Nat.le_of_ble_eq_true rfl) (fun x hx hr => ?_)
  show G Γ x 4 (QI Γ x (qctX9_areKept M log from_ to_)) M 0 [(0, aR Γ 0), (1, vI log), (2, vI from_), (3, vI to_)] []
  refine g_aload_n (n := 1) hx 0 (dq tX9_areKept 0 rfl) rfl rfl ?_
  refine g_iload_n (n := 2) hx 1 (dq tX9_areKept 1 rfl) rfl rfl ?_
  refine g_callVi (n := 5) (As := [vI log]) (rest := []) hx (ctX9_isLog Γ M log (by omega) (by omega)) mlX9_180 (obX9 (by decide)) (dq tX9_areKept 2 rfl) rfl (Nat.le_of_ble_eq_true rfl) (Nat.le_of_ble_eq_true rfl) (Nat.le_of_ble_eq_true rfl) rfl (fun z_1 M_2 h_3 p_4 => ?_)
  obtain ⟨rfl, b_6⟩ := p_4
  refine g_if_eq (n := 8) (t := 33) hx (dq tX9_areKept 3 rfl) (by decide) rfl h_3 (fun c_10 => ?_) (fun c_10 => ?_)
  · clear b_6
    refine g_iconst (n := 34) hx (dq tX9_areKept 17 rfl) rfl ?_
    exact g_zret hx hr (dq tX9_areKept 18 rfl) (by omega) ⟨rfl, (by omega)⟩
  · have b_6 := b_6.resolve_left c_10
    obtain ⟨-, h_7, h_8, h_9⟩ := b_6
    refine g_iload_n (n := 9) hx 3 (dq tX9_areKept 4 rfl) rfl rfl ?_
    refine g_iconst (n := 10) hx (dq tX9_areKept 5 rfl) rfl ?_
    refine g_icmp_lt (n := 13) (t := 33) hx (dq tX9_areKept 6 rfl) (by decide) rfl (zrI hto_l hto_u (by decide) (by decide)) ⟨by decide, by decide⟩ (fun c_11 => ?_) (fun c_11 => ?_)
    · refine g_iconst (n := 34) hx (dq tX9_areKept 17 rfl) rfl ?_
      exact g_zret hx hr (dq tX9_areKept 18 rfl) (by omega) ⟨rfl, (by omega)⟩
    · refine g_iload_n (n := 14) hx 2 (dq tX9_areKept 7 rfl) rfl rfl ?_
      refine g_iload_n (n := 15) hx 3 (dq tX9_areKept 8 rfl) rfl rfl ?_
      refine g_icmp_lt (n := 18) (t := 33) hx (dq tX9_areKept 9 rfl) (by decide) rfl (zrI hfrom_l hfrom_u (by decide) (by decide)) (zrI hto_l hto_u (by decide) (by decide)) (fun c_12 => ?_) (fun c_12 => ?_)
      · refine g_iconst (n := 34) hx (dq tX9_areKept 17 rfl) rfl ?_
        exact g_zret hx hr (dq tX9_areKept 18 rfl) (by omega) ⟨rfl, (by omega)⟩
      · refine g_iload_n (n := 19) hx 2 (dq tX9_areKept 10 rfl) rfl rfl ?_
        refine g_aload_n (n := 20) hx 0 (dq tX9_areKept 11 rfl) rfl rfl ?_
        refine g_getR (n := 23) hx glX9_47 (sX9_5 (by decide)) (dq tX9_areKept 12 rfl) rfl ?_
        refine g_callVi (n := 26) (As := []) (rest := [vI from_]) hx (ctX8_daysKept Γ M 45 (by decide)) mlX9_335 (obX8 (by decide)) (dq tX9_areKept 13 rfl) rfl (Nat.le_of_ble_eq_true rfl) (Nat.le_of_ble_eq_true rfl) (Nat.le_of_ble_eq_true rfl) rfl (fun z_13 M_14 h_15 p_16 => ?_)
        obtain ⟨rfl, h_18, h_19⟩ := p_16
        refine g_icmp_gt (n := 29) (t := 33) hx (dq tX9_areKept 14 rfl) (by decide) rfl (zrI hfrom_l hfrom_u (by decide) (by decide)) h_15 (fun c_20 => ?_) (fun c_20 => ?_)
        · refine g_iconst (n := 34) hx (dq tX9_areKept 17 rfl) rfl ?_
          exact g_zret hx hr (dq tX9_areKept 18 rfl) (by omega) ⟨rfl, (by omega)⟩
        · refine g_iconst (n := 30) hx (dq tX9_areKept 15 rfl) rfl ?_
          refine g_goto (n := 34) hx (dq tX9_areKept 16 rfl) (by decide) ?_
          exact g_zret hx hr (dq tX9_areKept 18 rfl) (by omega) ⟨rfl, (by omega)⟩

abbrev qctX9_wereAt (M : zM) (log : Int) (from_ : Int) (to_ : Int) (z : Int) (M' : zM) : Prop := M = M'
set_option maxHeartbeats 4000000 in
set_option maxRecDepth 100000 in
theorem ctX9_wereAt (Γ : Gam) (M : zM) (log : Int) (hlogl : (-2147483648) ≤ log) (hlogu : log ≤ 2147483647) (from_ : Int) (hfrom_l : (-2147483648) ≤ from_) (hfrom_u : from_ ≤ 2147483647) (to_ : Int) (hto_l : (-2147483648) ≤ to_) (hto_u : to_ ≤ 2147483647) (gd0 : Gd M 37 (45 + 1)) : CtI Γ yX9_wereAt cX9_wereAt 4 (some .int) 3 69 [aR Γ 0, vI log, vI from_, vI to_] M (qctX9_wereAt M log from_ to_) := by
  refine met_i (by decide) (Nat.le_of_ble_eq_true rfl) (fun x hx hr => ?_)
  show G Γ x 4 (QI Γ x (qctX9_wereAt M log from_ to_)) M 0 [(0, aR Γ 0), (1, vI log), (2, vI from_), (3, vI to_)] []
  refine g_aload_n (n := 1) hx 0 (dq tX9_wereAt 0 rfl) rfl rfl ?_
  refine g_iload_n (n := 2) hx 1 (dq tX9_wereAt 1 rfl) rfl rfl ?_
  refine g_iload_n (n := 3) hx 2 (dq tX9_wereAt 2 rfl) rfl rfl ?_
  refine g_iload_n (n := 4) hx 3 (dq tX9_wereAt 3 rfl) rfl rfl ?_
  refine g_callVi (n := 7) (As := [vI log, vI from_, vI to_]) (rest := []) hx (ctX9_areKept Γ M log (by omega) (by omega) from_ (by omega) (by omega) to_ (by omega) (by omega)) mlX9_341 (obX9 (by decide)) (dq tX9_wereAt 4 rfl) rfl (Nat.le_of_ble_eq_true rfl) (Nat.le_of_ble_eq_true rfl) (Nat.le_of_ble_eq_true rfl) rfl (fun z_1 M_2 h_3 p_4 => ?_)
  obtain ⟨rfl, b_6⟩ := p_4
  refine g_if_ne (n := 10) (t := 12) hx (dq tX9_wereAt 5 rfl) (by decide) rfl h_3 (fun c_13 => ?_) (fun c_13 => ?_)
  · have b_6 := b_6.resolve_left c_13
    obtain ⟨-, h_7, h_8, h_9, h_10, h_11, h_12⟩ := b_6
    refine g_aload_n (n := 13) hx 0 (dq tX9_wereAt 8 rfl) rfl rfl ?_
    refine g_getR (n := 16) hx glX9_47 (sX9_5 (by decide)) (dq tX9_wereAt 9 rfl) rfl ?_
    refine g_iload_n (n := 17) hx 1 (dq tX9_wereAt 10 rfl) rfl rfl ?_
    refine g_iload_n (n := 18) hx 2 (dq tX9_wereAt 11 rfl) rfl rfl ?_
    refine g_iload_n (n := 19) hx 3 (dq tX9_wereAt 12 rfl) rfl rfl ?_
    refine g_callVi (n := 22) (As := [vI log, vI from_, vI to_]) (rest := []) hx (ctX8_villagesSeen Γ M 45 (by decide) log (by omega) (by omega) from_ (by omega) (by omega) to_ (by omega) (by omega)) mlX9_345 (obX8 (by decide)) (dq tX9_wereAt 13 rfl) rfl (Nat.le_of_ble_eq_true rfl) (Nat.le_of_ble_eq_true rfl) (Nat.le_of_ble_eq_true rfl) rfl (fun z_14 M_15 h_16 p_17 => ?_)
    obtain rfl := p_17
    exact g_iret hx hr (dq tX9_wereAt 14 rfl) h_16 rfl
  · clear b_6
    refine g_iconst (n := 11) hx (dq tX9_wereAt 6 rfl) rfl ?_
    exact g_iret hx hr (dq tX9_wereAt 7 rfl) ⟨by decide, by decide⟩ rfl

abbrev qctX9_commonDivisor (M : zM) (one : Int) (other : Int) (z : Int) (M' : zM) : Prop := M = M'
set_option maxHeartbeats 4000000 in
set_option maxRecDepth 100000 in
theorem ctX9_commonDivisor (Γ : Gam) (M : zM) (one : Int) (honel : (-2147483648) ≤ one) (honeu : one ≤ 2147483647) (other : Int) (hotherl : (-2147483648) ≤ other) (hotheru : other ≤ 2147483647)  : CtI Γ yX9_commonDivisor cX9_commonDivisor 6 (some .int) 0 0 [vI one, vI other] M (qctX9_commonDivisor M one other) := by
  refine met_i (by decide) (Nat.le_of_ble_eq_true rfl) (fun x hx hr => ?_)
  show G Γ x 6 (QI Γ x (qctX9_commonDivisor M one other)) M 0 [(0, vI one), (1, vI other)] []
  refine g_iload_n (n := 1) hx 0 (dq tX9_commonDivisor 0 rfl) rfl rfl ?_
  refine g_istore_n (n := 2) (lv' := [(2, vI one), (0, vI one), (1, vI other)]) hx (dq tX9_commonDivisor 1 rfl) (by decide) rfl rfl ?_
  refine g_iload_n (n := 3) hx 2 (dq tX9_commonDivisor 2 rfl) rfl rfl ?_
  refine g_istore_n (n := 4) (lv' := [(3, vI other), (2, vI one), (0, vI one), (1, vI other)]) hx (dq tX9_commonDivisor 3 rfl) (by decide) rfl rfl ?_
  refine g_iconst (n := 5) hx (dq tX9_commonDivisor 4 rfl) rfl ?_
  refine g_istore (n := 7) (lv' := [(4, vI 0), (3, vI other), (2, vI one), (0, vI one), (1, vI other)]) hx (dq tX9_commonDivisor 5 rfl) (by decide) rfl rfl ?_
  have L_4 : ∀ (n_ : Nat) (i_1 : Int) (i_2 : Int) (i_3 : Int), (0 ≤ i_1) → (i_1 ≤ 64) → ((-2147483648) ≤ i_2) → (i_2 ≤ 2147483647) → ((-2147483648) ≤ i_3) → (i_3 ≤ 2147483647) → ((64 - i_1).toNat = n_) → G Γ x 6 (QI Γ x (qctX9_commonDivisor M one other)) M 7 [(4, vI i_1), (3, vI i_2), (2, vI i_3), (0, vI one), (1, vI other)] [] := by
    intro n_
    induction n_ using Nat.strongRecOn with
    | _ n_ ih_5 =>
      intro i_1 i_2 i_3 h_8 h_9 h_10 h_11 h_12 h_13 hm_7
      refine g_iload (n := 9) hx 0 (dq tX9_commonDivisor 6 rfl) rfl rfl ?_
      refine g_bipush (n := 11) hx (dq tX9_commonDivisor 7 rfl) rfl (by decide) ?_
      refine g_icmp_ge (n := 14) (t := 34) hx (dq tX9_commonDivisor 8 rfl) (by decide) rfl ⟨by omega, by omega⟩ ⟨by decide, by decide⟩ (fun c_14 => ?_) (fun c_14 => ?_)
      · refine g_iload_n (n := 35) hx 2 (dq tX9_commonDivisor 21 rfl) rfl rfl ?_
        exact g_iret hx hr (dq tX9_commonDivisor 22 rfl) ⟨by omega, by omega⟩ rfl
      · refine g_iload_n (n := 15) hx 1 (dq tX9_commonDivisor 9 rfl) rfl rfl ?_
        refine g_if_eq (n := 18) (t := 34) hx (dq tX9_commonDivisor 10 rfl) (by decide) rfl ⟨by omega, by omega⟩ (fun c_15 => ?_) (fun c_15 => ?_)
        · refine g_iload_n (n := 35) hx 2 (dq tX9_commonDivisor 21 rfl) rfl rfl ?_
          exact g_iret hx hr (dq tX9_commonDivisor 22 rfl) ⟨by omega, by omega⟩ rfl
        · refine g_iload_n (n := 19) hx 2 (dq tX9_commonDivisor 11 rfl) rfl rfl ?_
          refine g_iload_n (n := 20) hx 1 (dq tX9_commonDivisor 12 rfl) rfl rfl ?_
          refine g_irem (n := 21) hx (dq tX9_commonDivisor 13 rfl) rfl ⟨by omega, by omega⟩ ⟨by omega, by omega⟩ (by omega) (fun z_16 h_17 h_18 => ?_)
          clear h_18
          refine g_istore (n := 23) (lv' := [(5, vI z_16), (4, vI i_1), (3, vI i_2), (2, vI i_3), (0, vI one), (1, vI other)]) hx (dq tX9_commonDivisor 14 rfl) (by decide) rfl rfl ?_
          refine g_iload_n (n := 24) hx 2 (dq tX9_commonDivisor 15 rfl) rfl rfl ?_
          refine g_istore_n (n := 25) (lv' := [(2, vI i_2), (5, vI z_16), (4, vI i_1), (3, vI i_2), (0, vI one), (1, vI other)]) hx (dq tX9_commonDivisor 16 rfl) (by decide) rfl rfl ?_
          refine g_iload (n := 27) hx 1 (dq tX9_commonDivisor 17 rfl) rfl rfl ?_
          refine g_istore_n (n := 28) (lv' := [(3, vI z_16), (2, vI i_2), (5, vI z_16), (4, vI i_1), (0, vI one), (1, vI other)]) hx (dq tX9_commonDivisor 18 rfl) (by decide) rfl rfl ?_
          refine g_iinc (n := 31) (lv' := [(4, vI (i_1 + 1)), (3, vI z_16), (2, vI i_2), (5, vI z_16), (0, vI one), (1, vI other)]) hx 3 (dq tX9_commonDivisor 19 rfl) rfl (by decide) rfl rfl ?_
          refine g_goto (n := 7) hx (dq tX9_commonDivisor 20 rfl) (by decide) ?_
          refine g_lv [0, 1, 2, 4, 5] rfl ?_
          exact ih_5 _ (by omega) (i_1 + 1) z_16 i_2 (by omega) (by omega) (by omega) (by omega) (by omega) (by omega) rfl
  exact L_4 _ 0 other one (by omega) (by omega) (by omega) (by omega) (by omega) (by omega) rfl

abbrev qctX9_likely (M : zM) (log : Int) (from_ : Int) (to_ : Int) (village : Int) (part : Int) (z : Int) (M' : zM) : Prop := M = M'
set_option maxHeartbeats 4000000 in
set_option maxRecDepth 100000 in
theorem ctX9_likely (Γ : Gam) (M : zM) (log : Int) (hlogl : (-2147483648) ≤ log) (hlogu : log ≤ 2147483647) (from_ : Int) (hfrom_l : (-2147483648) ≤ from_) (hfrom_u : from_ ≤ 2147483647) (to_ : Int) (hto_l : (-2147483648) ≤ to_) (hto_u : to_ ≤ 2147483647) (village : Int) (hvillagel : (-2147483648) ≤ village) (hvillageu : village ≤ 2147483647) (part : Int) (hpartl : (-2147483648) ≤ part) (hpartu : part ≤ 2147483647) (gd0 : Gd M 37 (45 + 1)) : CtI Γ yX9_likely cX9_likely 11 (some .int) 3 57 [aR Γ 0, vI log, vI from_, vI to_, vI village, vI part] M (qctX9_likely M log from_ to_ village part) := by
  refine met_i (by decide) (Nat.le_of_ble_eq_true rfl) (fun x hx hr => ?_)
  show G Γ x 11 (QI Γ x (qctX9_likely M log from_ to_ village part)) M 0 [(0, aR Γ 0), (1, vI log), (2, vI from_), (3, vI to_), (4, vI village), (5, vI part)] []
  refine g_aload_n (n := 1) hx 0 (dq tX9_likely 0 rfl) rfl rfl ?_
  refine g_iload_n (n := 2) hx 1 (dq tX9_likely 1 rfl) rfl rfl ?_
  refine g_iload_n (n := 3) hx 2 (dq tX9_likely 2 rfl) rfl rfl ?_
  refine g_iload_n (n := 4) hx 3 (dq tX9_likely 3 rfl) rfl rfl ?_
  refine g_callVi (n := 7) (As := [vI log, vI from_, vI to_]) (rest := []) hx (ctX9_areKept Γ M log (by omega) (by omega) from_ (by omega) (by omega) to_ (by omega) (by omega)) mlX9_341 (obX9 (by decide)) (dq tX9_likely 4 rfl) rfl (Nat.le_of_ble_eq_true rfl) (Nat.le_of_ble_eq_true rfl) (Nat.le_of_ble_eq_true rfl) rfl (fun z_1 M_2 h_3 p_4 => ?_)
  obtain ⟨rfl, b_6⟩ := p_4
  refine g_if_eq (n := 10) (t := 30) hx (dq tX9_likely 5 rfl) (by decide) rfl h_3 (fun c_13 => ?_) (fun c_13 => ?_)
  · clear b_6
    refine g_iconst (n := 31) hx (dq tX9_likely 15 rfl) rfl ?_
    exact g_iret hx hr (dq tX9_likely 16 rfl) ⟨by decide, by decide⟩ rfl
  · have b_6 := b_6.resolve_left c_13
    obtain ⟨-, h_7, h_8, h_9, h_10, h_11, h_12⟩ := b_6
    refine g_aload_n (n := 11) hx 0 (dq tX9_likely 6 rfl) rfl rfl ?_
    refine g_iload (n := 13) hx 4 (dq tX9_likely 7 rfl) rfl rfl ?_
    refine g_callVi (n := 16) (As := [vI village]) (rest := []) hx (ctX9_isVillage Γ M village (by omega) (by omega)) mlX9_136 (obX9 (by decide)) (dq tX9_likely 8 rfl) rfl (Nat.le_of_ble_eq_true rfl) (Nat.le_of_ble_eq_true rfl) (Nat.le_of_ble_eq_true rfl) rfl (fun z_14 M_15 h_16 p_17 => ?_)
    obtain ⟨rfl, b_19⟩ := p_17
    refine g_if_eq (n := 19) (t := 30) hx (dq tX9_likely 9 rfl) (by decide) rfl h_16 (fun c_23 => ?_) (fun c_23 => ?_)
    · clear b_19
      refine g_iconst (n := 31) hx (dq tX9_likely 15 rfl) rfl ?_
      exact g_iret hx hr (dq tX9_likely 16 rfl) ⟨by decide, by decide⟩ rfl
    · have b_19 := b_19.resolve_left c_23
      obtain ⟨-, h_20, h_21, h_22⟩ := b_19
      refine g_iload (n := 21) hx 5 (dq tX9_likely 10 rfl) rfl rfl ?_
      refine g_if_lt (n := 24) (t := 30) hx (dq tX9_likely 11 rfl) (by decide) rfl (zrI hpartl hpartu (by decide) (by decide)) (fun c_24 => ?_) (fun c_24 => ?_)
      · refine g_iconst (n := 31) hx (dq tX9_likely 15 rfl) rfl ?_
        exact g_iret hx hr (dq tX9_likely 16 rfl) ⟨by decide, by decide⟩ rfl
      · refine g_iload (n := 26) hx 5 (dq tX9_likely 12 rfl) rfl rfl ?_
        refine g_iconst (n := 27) hx (dq tX9_likely 13 rfl) rfl ?_
        refine g_icmp_le (n := 30) (t := 32) hx (dq tX9_likely 14 rfl) (by decide) rfl (zrI hpartl hpartu (by decide) (by decide)) ⟨by decide, by decide⟩ (fun c_25 => ?_) (fun c_25 => ?_)
        · refine g_iconst (n := 33) hx (dq tX9_likely 17 rfl) rfl ?_
          refine g_istore (n := 35) (lv' := [(6, vI 0), (0, aR Γ 0), (1, vI log), (2, vI from_), (3, vI to_), (4, vI village), (5, vI part)]) hx (dq tX9_likely 18 rfl) (by decide) rfl rfl ?_
          refine g_bipush (n := 37) hx (dq tX9_likely 19 rfl) rfl (by decide) ?_
          refine g_iload_n (n := 38) hx 3 (dq tX9_likely 20 rfl) rfl rfl ?_
          refine g_iload_n (n := 39) hx 4 (dq tX9_likely 21 rfl) rfl rfl ?_
          refine g_isub (n := 40) hx (dq tX9_likely 22 rfl) rfl ?_
          refine g_iconst (n := 41) hx (dq tX9_likely 23 rfl) rfl ?_
          refine g_iadd (n := 42) hx (dq tX9_likely 24 rfl) rfl ?_
          refine g_imul (n := 43) hx (dq tX9_likely 25 rfl) rfl ?_
          refine g_istore (n := 45) (lv' := [(7, vI (60 * ((from_ - to_) + 1))), (6, vI 0), (0, aR Γ 0), (1, vI log), (2, vI from_), (3, vI to_), (4, vI village), (5, vI part)]) hx (dq tX9_likely 26 rfl) (by decide) rfl rfl ?_
          refine g_iload_n (n := 46) hx 5 (dq tX9_likely 27 rfl) rfl rfl ?_
          refine g_istore (n := 48) (lv' := [(8, vI to_), (7, vI (60 * ((from_ - to_) + 1))), (6, vI 0), (0, aR Γ 0), (1, vI log), (2, vI from_), (3, vI to_), (4, vI village), (5, vI part)]) hx (dq tX9_likely 28 rfl) (by decide) rfl rfl ?_
          have L_28 : ∀ (n_ : Nat) (i_26 : Int) (i_27 : Int), (1 ≤ i_26) → (i_26 ≤ 31) → ((-2147483648) ≤ i_27) → (i_27 ≤ 2147483647) → ((31 - i_26).toNat = n_) → G Γ x 11 (QI Γ x (qctX9_likely M log from_ to_ village part)) M 48 [(8, vI i_26), (7, vI (60 * ((from_ - to_) + 1))), (6, vI i_27), (0, aR Γ 0), (1, vI log), (2, vI from_), (3, vI to_), (4, vI village), (5, vI part)] [] := by
            intro n_
            induction n_ using Nat.strongRecOn with
            | _ n_ ih_29 =>
              intro i_26 i_27 h_32 h_33 h_34 h_35 hm_31
              refine g_iload (n := 50) hx 0 (dq tX9_likely 29 rfl) rfl rfl ?_
              refine g_iload_n (n := 51) hx 5 (dq tX9_likely 30 rfl) rfl rfl ?_
              refine g_icmp_gt (n := 54) (t := 112) hx (dq tX9_likely 31 rfl) (by decide) rfl ⟨by omega, by omega⟩ (zrI hfrom_l hfrom_u (by decide) (by decide)) (fun c_36 => ?_) (fun c_36 => ?_)
              · refine g_iload (n := 114) hx 1 (dq tX9_likely 61 rfl) rfl rfl ?_
                refine g_iload (n := 116) hx 2 (dq tX9_likely 62 rfl) rfl rfl ?_
                refine g_callSi (n := 119) (As := [vI (60 * ((from_ - to_) + 1)), vI i_27]) (rest := []) hx (ctX9_commonDivisor Γ M (60 * ((from_ - to_) + 1)) (by omega) (by omega) i_27 (by omega) (by omega)) mlX9_352 (dq tX9_likely 63 rfl) rfl (Nat.le_of_ble_eq_true rfl) (Nat.le_of_ble_eq_true rfl) (Nat.le_of_ble_eq_true rfl) rfl (fun z_37 M_38 h_39 p_40 => ?_)
                obtain rfl := p_40
                refine g_istore (n := 121) (lv' := [(8, vI z_37), (7, vI (60 * ((from_ - to_) + 1))), (6, vI i_27), (0, aR Γ 0), (1, vI log), (2, vI from_), (3, vI to_), (4, vI village), (5, vI part)]) hx (dq tX9_likely 64 rfl) (by decide) rfl rfl ?_
                refine g_iload (n := 123) hx 0 (dq tX9_likely 65 rfl) rfl rfl ?_
                refine g_iconst (n := 124) hx (dq tX9_likely 66 rfl) rfl ?_
                refine g_icmp_ge (n := 127) (t := 129) hx (dq tX9_likely 67 rfl) (by decide) rfl h_39 ⟨by decide, by decide⟩ (fun c_42 => ?_) (fun c_42 => ?_)
                · refine g_iload (n := 131) hx 8 (dq tX9_likely 70 rfl) rfl rfl ?_
                  refine g_if_ne (n := 134) (t := 139) hx (dq tX9_likely 71 rfl) (by decide) rfl (zrI hpartl hpartu (by decide) (by decide)) (fun c_43 => ?_) (fun c_43 => ?_)
                  · refine g_iload (n := 141) hx 1 (dq tX9_likely 74 rfl) rfl rfl ?_
                    refine g_iload (n := 143) hx 0 (dq tX9_likely 75 rfl) rfl rfl ?_
                    refine g_idiv (n := 144) hx (dq tX9_likely 76 rfl) rfl ⟨by omega, by omega⟩ h_39 (by omega) (fun z_44 h_45 h_46 => ?_)
                    clear h_46
                    exact g_iret hx hr (dq tX9_likely 77 rfl) h_45 rfl
                  · refine g_iload (n := 136) hx 2 (dq tX9_likely 72 rfl) rfl rfl ?_
                    refine g_goto (n := 141) hx (dq tX9_likely 73 rfl) (by decide) ?_
                    refine g_iload (n := 143) hx 0 (dq tX9_likely 75 rfl) rfl rfl ?_
                    refine g_idiv (n := 144) hx (dq tX9_likely 76 rfl) rfl ⟨by omega, by omega⟩ h_39 (by omega) (fun z_47 h_48 h_49 => ?_)
                    clear h_49
                    exact g_iret hx hr (dq tX9_likely 77 rfl) h_48 rfl
                · refine g_iconst (n := 128) hx (dq tX9_likely 68 rfl) rfl ?_
                  exact g_iret hx hr (dq tX9_likely 69 rfl) ⟨by decide, by decide⟩ rfl
              · refine g_aload_n (n := 55) hx 3 (dq tX9_likely 32 rfl) rfl rfl ?_
                refine g_getR (n := 58) hx glX9_47 (sX9_5 (by decide)) (dq tX9_likely 33 rfl) rfl ?_
                refine g_aload_n (n := 59) hx 3 (dq tX9_likely 34 rfl) rfl rfl ?_
                refine g_getR (n := 62) hx glX9_47 (sX9_5 (by decide)) (dq tX9_likely 35 rfl) rfl ?_
                refine g_iload_n (n := 63) hx 4 (dq tX9_likely 36 rfl) rfl rfl ?_
                refine g_iload (n := 65) hx 0 (dq tX9_likely 37 rfl) rfl rfl ?_
                refine g_callVi (n := 68) (As := [vI log, vI i_26]) (rest := [aR Γ 45]) hx (ctX8_placeAgo Γ M 45 (by decide) log (by omega) (by omega) i_26 (by omega) (by omega)) mlX9_338 (obX8 (by decide)) (dq tX9_likely 38 rfl) rfl (Nat.le_of_ble_eq_true rfl) (Nat.le_of_ble_eq_true rfl) (Nat.le_of_ble_eq_true rfl) rfl (fun z_50 M_51 h_52 p_53 => ?_)
                obtain rfl := p_53
                refine g_callVi (n := 71) (As := [vI z_50]) (rest := []) hx (ctX8_villagesAt Γ M 45 (by decide) z_50 (by omega) (by omega)) mlX9_349 (obX8 (by decide)) (dq tX9_likely 39 rfl) rfl (Nat.le_of_ble_eq_true rfl) (Nat.le_of_ble_eq_true rfl) (Nat.le_of_ble_eq_true rfl) rfl (fun z_55 M_56 h_57 p_58 => ?_)
                obtain rfl := p_58
                refine g_istore (n := 73) (lv' := [(9, vI z_55), (8, vI i_26), (7, vI (60 * ((from_ - to_) + 1))), (6, vI i_27), (0, aR Γ 0), (1, vI log), (2, vI from_), (3, vI to_), (4, vI village), (5, vI part)]) hx (dq tX9_likely 40 rfl) (by decide) rfl rfl ?_
                refine g_iload (n := 75) hx 0 (dq tX9_likely 41 rfl) rfl rfl ?_
                refine g_callSi (n := 78) (As := [vI z_55]) (rest := []) hx (ctJ6_bitCount_0f7a4 Γ M z_55 (by omega) (by omega)) mlX9_269 (dq tX9_likely 42 rfl) rfl (Nat.le_of_ble_eq_true rfl) (Nat.le_of_ble_eq_true rfl) (Nat.le_of_ble_eq_true rfl) rfl (fun z_60 M_61 h_62 p_63 => ?_)
                obtain rfl := p_63
                refine g_istore (n := 80) (lv' := [(10, vI z_60), (9, vI z_55), (8, vI i_26), (7, vI (60 * ((from_ - to_) + 1))), (6, vI i_27), (0, aR Γ 0), (1, vI log), (2, vI from_), (3, vI to_), (4, vI village), (5, vI part)]) hx (dq tX9_likely 43 rfl) (by decide) rfl rfl ?_
                refine g_iload (n := 82) hx 0 (dq tX9_likely 44 rfl) rfl rfl ?_
                refine g_if_le (n := 85) (t := 106) hx (dq tX9_likely 45 rfl) (by decide) rfl h_62 (fun c_65 => ?_) (fun c_65 => ?_)
                · refine g_iinc (n := 109) (lv' := [(8, vI (i_26 + 1)), (10, vI z_60), (9, vI z_55), (7, vI (60 * ((from_ - to_) + 1))), (6, vI i_27), (0, aR Γ 0), (1, vI log), (2, vI from_), (3, vI to_), (4, vI village), (5, vI part)]) hx 2 (dq tX9_likely 59 rfl) rfl (by decide) rfl rfl ?_
                  refine g_goto (n := 48) hx (dq tX9_likely 60 rfl) (by decide) ?_
                  refine g_lv [0, 3, 4, 5, 6, 7, 8, 9, 10] rfl ?_
                  exact ih_29 _ (by omega) (i_26 + 1) i_27 (by omega) (by omega) (by omega) (by omega) rfl
                · refine g_iload (n := 87) hx 1 (dq tX9_likely 46 rfl) rfl rfl ?_
                  refine g_iload (n := 89) hx 9 (dq tX9_likely 47 rfl) rfl rfl ?_
                  refine g_ishr (n := 90) hx (dq tX9_likely 48 rfl) rfl (fun z_66 h_67 => ?_)
                  refine g_iconst (n := 91) hx (dq tX9_likely 49 rfl) rfl ?_
                  refine g_iand (n := 92) hx (dq tX9_likely 50 rfl) rfl (fun z_69 h_70 h_711 h_712 => ?_)
                  obtain ⟨h_713, h_714⟩ := h_711 (by omega) (by omega)
                  clear h_711 h_712
                  refine g_iconst (n := 93) hx (dq tX9_likely 51 rfl) rfl ?_
                  refine g_icmp_ne (n := 96) (t := 106) hx (dq tX9_likely 52 rfl) (by decide) rfl h_70 ⟨by decide, by decide⟩ (fun c_72 => ?_) (fun c_72 => ?_)
                  · refine g_iinc (n := 109) (lv' := [(8, vI (i_26 + 1)), (10, vI z_60), (9, vI z_55), (7, vI (60 * ((from_ - to_) + 1))), (6, vI i_27), (0, aR Γ 0), (1, vI log), (2, vI from_), (3, vI to_), (4, vI village), (5, vI part)]) hx 2 (dq tX9_likely 59 rfl) rfl (by decide) rfl rfl ?_
                    refine g_goto (n := 48) hx (dq tX9_likely 60 rfl) (by decide) ?_
                    refine g_lv [0, 3, 4, 5, 6, 7, 8, 9, 10] rfl ?_
                    exact ih_29 _ (by omega) (i_26 + 1) i_27 (by omega) (by omega) (by omega) (by omega) rfl
                  · refine g_iload (n := 98) hx 4 (dq tX9_likely 53 rfl) rfl rfl ?_
                    refine g_bipush (n := 100) hx (dq tX9_likely 54 rfl) rfl (by decide) ?_
                    refine g_iload (n := 102) hx 0 (dq tX9_likely 55 rfl) rfl rfl ?_
                    refine g_idiv (n := 103) hx (dq tX9_likely 56 rfl) rfl ⟨by decide, by decide⟩ h_62 (by omega) (fun z_73 h_74 h_75 => ?_)
                    obtain ⟨h_756, h_754, h_755⟩ := h_75 (by omega) (by omega)
                    clear h_75 h_756
                    refine g_iadd (n := 104) hx (dq tX9_likely 57 rfl) rfl ?_
                    refine g_any (fun z_76 h_77 => ?_)
                    refine g_istore (n := 106) (lv' := [(6, vI z_76), (10, vI z_60), (9, vI z_55), (8, vI i_26), (7, vI (60 * ((from_ - to_) + 1))), (0, aR Γ 0), (1, vI log), (2, vI from_), (3, vI to_), (4, vI village), (5, vI part)]) hx (dq tX9_likely 58 rfl) (by decide) rfl rfl ?_
                    refine g_iinc (n := 109) (lv' := [(8, vI (i_26 + 1)), (6, vI z_76), (10, vI z_60), (9, vI z_55), (7, vI (60 * ((from_ - to_) + 1))), (0, aR Γ 0), (1, vI log), (2, vI from_), (3, vI to_), (4, vI village), (5, vI part)]) hx 3 (dq tX9_likely 59 rfl) rfl (by decide) rfl rfl ?_
                    refine g_goto (n := 48) hx (dq tX9_likely 60 rfl) (by decide) ?_
                    refine g_lv [0, 4, 1, 5, 6, 7, 8, 9, 10] rfl ?_
                    exact ih_29 _ (by omega) (i_26 + 1) z_76 (by omega) (by omega) (by omega) (by omega) rfl
          exact L_28 _ to_ 0 (by omega) (by omega) (by omega) (by omega) rfl
        · refine g_iconst (n := 31) hx (dq tX9_likely 15 rfl) rfl ?_
          exact g_iret hx hr (dq tX9_likely 16 rfl) ⟨by decide, by decide⟩ rfl

abbrev qctX9_parted (M : zM) (log : Int) (place : Int) (what : Int) (z : Int) (M' : zM) : Prop := M = M'
set_option maxHeartbeats 4000000 in
set_option maxRecDepth 100000 in
theorem ctX9_parted (Γ : Gam) (M : zM) (log : Int) (hlogl : (-2147483648) ≤ log) (hlogu : log ≤ 2147483647) (place : Int) (hplacel : (-2147483648) ≤ place) (hplaceu : place ≤ 2147483647) (what : Int) (hwhatl : (-2147483648) ≤ what) (hwhatu : what ≤ 2147483647) (gd0 : Gd M 37 (45 + 1)) : CtI Γ yX9_parted cX9_parted 10 (some .int) 3 69 [aR Γ 0, vI log, vI place, vI what] M (qctX9_parted M log place what) := by
  refine met_i (by decide) (Nat.le_of_ble_eq_true rfl) (fun x hx hr => ?_)
  show G Γ x 10 (QI Γ x (qctX9_parted M log place what)) M 0 [(0, aR Γ 0), (1, vI log), (2, vI place), (3, vI what)] []
  refine g_aload_n (n := 1) hx 0 (dq tX9_parted 0 rfl) rfl rfl ?_
  refine g_iload_n (n := 2) hx 1 (dq tX9_parted 1 rfl) rfl rfl ?_
  refine g_callVi (n := 5) (As := [vI log]) (rest := []) hx (ctX9_isLog Γ M log (by omega) (by omega)) mlX9_180 (obX9 (by decide)) (dq tX9_parted 2 rfl) rfl (Nat.le_of_ble_eq_true rfl) (Nat.le_of_ble_eq_true rfl) (Nat.le_of_ble_eq_true rfl) rfl (fun z_1 M_2 h_3 p_4 => ?_)
  obtain ⟨rfl, b_6⟩ := p_4
  refine g_if_eq (n := 8) (t := 27) hx (dq tX9_parted 3 rfl) (by decide) rfl h_3 (fun c_10 => ?_) (fun c_10 => ?_)
  · clear b_6
    refine g_iconst (n := 28) hx (dq tX9_parted 14 rfl) rfl ?_
    exact g_iret hx hr (dq tX9_parted 15 rfl) ⟨by decide, by decide⟩ rfl
  · have b_6 := b_6.resolve_left c_10
    obtain ⟨-, h_7, h_8, h_9⟩ := b_6
    refine g_iload_n (n := 9) hx 2 (dq tX9_parted 4 rfl) rfl rfl ?_
    refine g_if_lt (n := 12) (t := 27) hx (dq tX9_parted 5 rfl) (by decide) rfl (zrI hplacel hplaceu (by decide) (by decide)) (fun c_11 => ?_) (fun c_11 => ?_)
    · refine g_iconst (n := 28) hx (dq tX9_parted 14 rfl) rfl ?_
      exact g_iret hx hr (dq tX9_parted 15 rfl) ⟨by decide, by decide⟩ rfl
    · refine g_iload_n (n := 13) hx 2 (dq tX9_parted 6 rfl) rfl rfl ?_
      refine g_bipush (n := 15) hx (dq tX9_parted 7 rfl) rfl (by decide) ?_
      refine g_icmp_ge (n := 18) (t := 27) hx (dq tX9_parted 8 rfl) (by decide) rfl (zrI hplacel hplaceu (by decide) (by decide)) ⟨by decide, by decide⟩ (fun c_12 => ?_) (fun c_12 => ?_)
      · refine g_iconst (n := 28) hx (dq tX9_parted 14 rfl) rfl ?_
        exact g_iret hx hr (dq tX9_parted 15 rfl) ⟨by decide, by decide⟩ rfl
      · refine g_iload_n (n := 19) hx 3 (dq tX9_parted 9 rfl) rfl rfl ?_
        refine g_if_lt (n := 22) (t := 27) hx (dq tX9_parted 10 rfl) (by decide) rfl (zrI hwhatl hwhatu (by decide) (by decide)) (fun c_13 => ?_) (fun c_13 => ?_)
        · refine g_iconst (n := 28) hx (dq tX9_parted 14 rfl) rfl ?_
          exact g_iret hx hr (dq tX9_parted 15 rfl) ⟨by decide, by decide⟩ rfl
        · refine g_iload_n (n := 23) hx 3 (dq tX9_parted 11 rfl) rfl rfl ?_
          refine g_iconst (n := 24) hx (dq tX9_parted 12 rfl) rfl ?_
          refine g_icmp_le (n := 27) (t := 29) hx (dq tX9_parted 13 rfl) (by decide) rfl (zrI hwhatl hwhatu (by decide) (by decide)) ⟨by decide, by decide⟩ (fun c_14 => ?_) (fun c_14 => ?_)
          · refine g_aload_n (n := 30) hx 0 (dq tX9_parted 16 rfl) rfl rfl ?_
            refine g_getR (n := 33) hx glX9_47 (sX9_5 (by decide)) (dq tX9_parted 17 rfl) rfl ?_
            refine g_getR (n := 36) hx glX9_109 (sX8_2 (by decide)) (dq tX9_parted 18 rfl) rfl ?_
            refine g_astore (n := 38) (lv' := [(4, aR Γ (45 + 11)), (0, aR Γ 0), (1, vI log), (2, vI place), (3, vI what)]) hx (dq tX9_parted 19 rfl) (by decide) rfl rfl ?_
            refine g_aload (n := 40) hx 0 (dq tX9_parted 20 rfl) rfl rfl ?_
            refine g_iload_n (n := 41) hx 2 (dq tX9_parted 21 rfl) rfl rfl ?_
            refine g_iload_n (n := 42) hx 3 (dq tX9_parted 22 rfl) rfl rfl ?_
            refine g_callVi (n := 45) (As := [vI log, vI place]) (rest := []) hx (ctX0_partedSight Γ M (45 + 11) (iX8_2 (by decide)) log (by omega) (by omega) place (by omega) (by omega)) mlX9_361 (obX0 (iX8_2 (by decide))) (dq tX9_parted 23 rfl) rfl (Nat.le_of_ble_eq_true rfl) (Nat.le_of_ble_eq_true rfl) (Nat.le_of_ble_eq_true rfl) rfl (fun z_15 M_16 h_17 p_18 => ?_)
            obtain ⟨rfl, h_20, h_21⟩ := p_18
            refine g_istore (n := 47) (lv' := [(5, vI z_15), (4, aR Γ (45 + 11)), (0, aR Γ 0), (1, vI log), (2, vI place), (3, vI what)]) hx (dq tX9_parted 24 rfl) (by decide) rfl rfl ?_
            refine g_iload (n := 49) hx 0 (dq tX9_parted 25 rfl) rfl rfl ?_
            refine g_iconst (n := 50) hx (dq tX9_parted 26 rfl) rfl ?_
            refine g_icmp_ne (n := 53) (t := 57) hx (dq tX9_parted 27 rfl) (by decide) rfl h_17 ⟨by decide, by decide⟩ (fun c_22 => ?_) (fun c_22 => ?_)
            · refine g_aload (n := 59) hx 1 (dq tX9_parted 30 rfl) rfl rfl ?_
              refine g_iload (n := 61) hx 0 (dq tX9_parted 31 rfl) rfl rfl ?_
              refine g_callVi (n := 64) (As := [vI z_15]) (rest := []) hx (ctX0_sightAhead Γ M (45 + 11) (iX8_2 (by decide)) z_15 (by omega) (by omega)) mlX9_364 (obX0 (iX8_2 (by decide))) (dq tX9_parted 32 rfl) rfl (Nat.le_of_ble_eq_true rfl) (Nat.le_of_ble_eq_true rfl) (Nat.le_of_ble_eq_true rfl) rfl (fun z_23 M_24 h_25 p_26 => ?_)
              obtain ⟨rfl, h_28, h_29⟩ := p_26
              refine g_istore (n := 66) (lv' := [(6, vI z_23), (5, vI z_15), (4, aR Γ (45 + 11)), (0, aR Γ 0), (1, vI log), (2, vI place), (3, vI what)]) hx (dq tX9_parted 33 rfl) (by decide) rfl rfl ?_
              refine g_iload (n := 68) hx 0 (dq tX9_parted 34 rfl) rfl rfl ?_
              refine g_iconst (n := 69) hx (dq tX9_parted 35 rfl) rfl ?_
              refine g_icmp_ne (n := 72) (t := 75) hx (dq tX9_parted 36 rfl) (by decide) rfl h_25 ⟨by decide, by decide⟩ (fun c_30 => ?_) (fun c_30 => ?_)
              · refine g_aload (n := 77) hx 2 (dq tX9_parted 39 rfl) rfl rfl ?_
                refine g_getR (n := 80) hx glX9_367 (sX0_10 (iX8_2 (by decide))) (dq tX9_parted 40 rfl) rfl ?_
                refine g_iload (n := 82) hx 0 (dq tX9_parted 41 rfl) rfl rfl ?_
                refine g_iald (n := 83) (q := z_23.toNat) hx (aX0_10 (b := 45 + 11) (iX8_2 (by decide))) (dq tX9_parted 42 rfl) rfl (by omega) (by omega) (by omega) rfl (fun h_31l h_31u => ?_)
                refine g_istore (n := 85) (lv' := [(7, vI (M (45 + 11 + 7) z_23.toNat)), (6, vI z_23), (5, vI z_15), (4, aR Γ (45 + 11)), (0, aR Γ 0), (1, vI log), (2, vI place), (3, vI what)]) hx (dq tX9_parted 43 rfl) (by decide) rfl rfl ?_
                refine g_aload (n := 87) hx 3 (dq tX9_parted 44 rfl) rfl rfl ?_
                refine g_getR (n := 90) hx glX9_367 (sX0_10 (iX8_2 (by decide))) (dq tX9_parted 45 rfl) rfl ?_
                refine g_iload (n := 92) hx 2 (dq tX9_parted 46 rfl) rfl rfl ?_
                refine g_iald (n := 93) (q := z_15.toNat) hx (aX0_10 (b := 45 + 11) (iX8_2 (by decide))) (dq tX9_parted 47 rfl) rfl (by omega) (by omega) (by omega) rfl (fun h_32l h_32u => ?_)
                refine g_istore (n := 95) (lv' := [(8, vI (M (45 + 11 + 7) z_15.toNat)), (7, vI (M (45 + 11 + 7) z_23.toNat)), (6, vI z_23), (5, vI z_15), (4, aR Γ (45 + 11)), (0, aR Γ 0), (1, vI log), (2, vI place), (3, vI what)]) hx (dq tX9_parted 48 rfl) (by decide) rfl rfl ?_
                refine g_iload_n (n := 96) hx 8 (dq tX9_parted 49 rfl) rfl rfl ?_
                by_cases c_33 : what = 0
                · refine g_swI (t := 124) hx (dq tX9_parted 50 rfl) c_33 (by decide) (by decide) rfl (by decide) ?_
                  refine g_iload (n := 126) hx 3 (dq tX9_parted 51 rfl) rfl rfl ?_
                  exact g_iret hx hr (dq tX9_parted 52 rfl) h_17 rfl
                by_cases c_34 : what = 1
                · refine g_swI (t := 127) hx (dq tX9_parted 50 rfl) c_34 (by decide) (by decide) rfl (by decide) ?_
                  refine g_iload (n := 129) hx 1 (dq tX9_parted 53 rfl) rfl rfl ?_
                  exact g_iret hx hr (dq tX9_parted 54 rfl) (zrI h_31l h_31u (by decide) (by decide)) rfl
                by_cases c_35 : what = 2
                · refine g_swI (t := 130) hx (dq tX9_parted 50 rfl) c_35 (by decide) (by decide) rfl (by decide) ?_
                  refine g_iload (n := 132) hx 0 (dq tX9_parted 55 rfl) rfl rfl ?_
                  exact g_iret hx hr (dq tX9_parted 56 rfl) (zrI h_32l h_32u (by decide) (by decide)) rfl
                refine g_swO (t := 133) hx (dq tX9_parted 50 rfl) (zrI hwhatl hwhatu (by decide) (by decide)) (by omega) (by decide) ?_
                refine g_aload_n (n := 134) hx 5 (dq tX9_parted 57 rfl) rfl rfl ?_
                refine g_getR (n := 137) hx glX9_47 (sX9_5 (by decide)) (dq tX9_parted 58 rfl) rfl ?_
                refine g_getR (n := 140) hx glX9_100 (sX8_1 (by decide)) (dq tX9_parted 59 rfl) rfl ?_
                refine g_getI (n := 143) hx glX9_297 (sX6_0 (iX8_1 (by decide))) (dq tX9_parted 60 rfl) rfl (fun h_36l h_36u => ?_)
                refine g_iload (n := 145) hx 1 (dq tX9_parted 61 rfl) rfl rfl ?_
                refine g_isub (n := 146) hx (dq tX9_parted 62 rfl) rfl ?_
                refine g_aload_n (n := 147) hx 5 (dq tX9_parted 63 rfl) rfl rfl ?_
                refine g_getR (n := 150) hx glX9_47 (sX9_5 (by decide)) (dq tX9_parted 64 rfl) rfl ?_
                refine g_callVi (n := 153) (As := []) (rest := [vI ((M (45 + 1) 0) - (M (45 + 11 + 7) z_23.toNat))]) hx (ctX8_daysKept Γ M 45 (by decide)) mlX9_335 (obX8 (by decide)) (dq tX9_parted 65 rfl) rfl (Nat.le_of_ble_eq_true rfl) (Nat.le_of_ble_eq_true rfl) (Nat.le_of_ble_eq_true rfl) rfl (fun z_37 M_38 h_39 p_40 => ?_)
                obtain ⟨rfl, h_42, h_43⟩ := p_40
                refine g_any2 (fun z_44 h_45 => ?_)
                refine g_min (n := 156) hx wd_576 wd_577 wd_17 wd_578 (dq tX9_parted 66 rfl) rfl (Nat.le_of_ble_eq_true rfl) (Nat.le_of_ble_eq_true rfl) h_45 h_39 (fun z_46 h_47 h_471 h_472 h_473 => ?_)
                refine g_istore (n := 158) (lv' := [(9, vI z_46), (8, vI (M (45 + 11 + 7) z_15.toNat)), (7, vI (M (45 + 11 + 7) z_23.toNat)), (6, vI z_23), (5, vI z_15), (4, aR Γ (45 + 11)), (0, aR Γ 0), (1, vI log), (2, vI place), (3, vI what)]) hx (dq tX9_parted 67 rfl) (by decide) rfl rfl ?_
                refine g_aload_n (n := 159) hx 6 (dq tX9_parted 68 rfl) rfl rfl ?_
                refine g_getR (n := 162) hx glX9_47 (sX9_5 (by decide)) (dq tX9_parted 69 rfl) rfl ?_
                refine g_iload_n (n := 163) hx 7 (dq tX9_parted 70 rfl) rfl rfl ?_
                refine g_iload (n := 165) hx 0 (dq tX9_parted 71 rfl) rfl rfl ?_
                refine g_aload_n (n := 166) hx 6 (dq tX9_parted 72 rfl) rfl rfl ?_
                refine g_getR (n := 169) hx glX9_47 (sX9_5 (by decide)) (dq tX9_parted 73 rfl) rfl ?_
                refine g_getR (n := 172) hx glX9_100 (sX8_1 (by decide)) (dq tX9_parted 74 rfl) rfl ?_
                refine g_getI (n := 175) hx glX9_297 (sX6_0 (iX8_1 (by decide))) (dq tX9_parted 75 rfl) rfl (fun h_48l h_48u => ?_)
                refine g_iload (n := 177) hx 1 (dq tX9_parted 76 rfl) rfl rfl ?_
                refine g_isub (n := 178) hx (dq tX9_parted 77 rfl) rfl ?_
                refine g_iconst (n := 179) hx (dq tX9_parted 78 rfl) rfl ?_
                refine g_iadd (n := 180) hx (dq tX9_parted 79 rfl) rfl ?_
                refine g_any (fun z_49 h_50 => ?_)
                refine g_callVi (n := 183) (As := [vI log, vI z_46, vI z_49]) (rest := []) hx (ctX8_villagesSeen Γ M 45 (by decide) log (by omega) (by omega) z_46 (by omega) (by omega) z_49 (by omega) (by omega)) mlX9_345 (obX8 (by decide)) (dq tX9_parted 80 rfl) rfl (Nat.le_of_ble_eq_true rfl) (Nat.le_of_ble_eq_true rfl) (Nat.le_of_ble_eq_true rfl) rfl (fun z_51 M_52 h_53 p_54 => ?_)
                obtain rfl := p_54
                exact g_iret hx hr (dq tX9_parted 81 rfl) h_53 rfl
              · refine g_bipush (n := 74) hx (dq tX9_parted 37 rfl) rfl (by decide) ?_
                exact g_iret hx hr (dq tX9_parted 38 rfl) ⟨by decide, by decide⟩ rfl
            · refine g_iconst (n := 54) hx (dq tX9_parted 28 rfl) rfl ?_
              refine g_goto (n := 64) hx (dq tX9_parted 29 rfl) (by decide) ?_
              refine g_istore (n := 66) (lv' := [(6, vI (-1)), (5, vI z_15), (4, aR Γ (45 + 11)), (0, aR Γ 0), (1, vI log), (2, vI place), (3, vI what)]) hx (dq tX9_parted 33 rfl) (by decide) rfl rfl ?_
              refine g_iload (n := 68) hx 0 (dq tX9_parted 34 rfl) rfl rfl ?_
              refine g_iconst (n := 69) hx (dq tX9_parted 35 rfl) rfl ?_
              refine g_icmp_ne (n := 72) (t := 75) hx (dq tX9_parted 36 rfl) (by decide) rfl ⟨by decide, by decide⟩ ⟨by decide, by decide⟩ (fun c_56 => ?_) (fun c_56 => ?_)
              · omega
              · refine g_bipush (n := 74) hx (dq tX9_parted 37 rfl) rfl (by decide) ?_
                exact g_iret hx hr (dq tX9_parted 38 rfl) ⟨by decide, by decide⟩ rfl
          · refine g_iconst (n := 28) hx (dq tX9_parted 14 rfl) rfl ?_
            exact g_iret hx hr (dq tX9_parted 15 rfl) ⟨by decide, by decide⟩ rfl

abbrev qctX9_owes (M : zM) (one : Int) (other : Int) (z : Int) (M' : zM) : Prop := M = M'
set_option maxHeartbeats 4000000 in
set_option maxRecDepth 100000 in
theorem ctX9_owes (Γ : Gam) (M : zM) (one : Int) (honel : (-2147483648) ≤ one) (honeu : one ≤ 2147483647) (other : Int) (hotherl : (-2147483648) ≤ other) (hotheru : other ≤ 2147483647) (gd0 : Gd M 37 (45 + 1)) : CtI Γ yX9_owes cX9_owes 3 (some .int) 1 21 [aR Γ 0, vI one, vI other] M (qctX9_owes M one other) := by
  refine met_i (by decide) (Nat.le_of_ble_eq_true rfl) (fun x hx hr => ?_)
  show G Γ x 3 (QI Γ x (qctX9_owes M one other)) M 0 [(0, aR Γ 0), (1, vI one), (2, vI other)] []
  refine g_aload_n (n := 1) hx 0 (dq tX9_owes 0 rfl) rfl rfl ?_
  refine g_iload_n (n := 2) hx 1 (dq tX9_owes 1 rfl) rfl rfl ?_
  refine g_callVi (n := 5) (As := [vI one]) (rest := []) hx (ctX9_isVillage Γ M one (by omega) (by omega)) mlX9_136 (obX9 (by decide)) (dq tX9_owes 2 rfl) rfl (Nat.le_of_ble_eq_true rfl) (Nat.le_of_ble_eq_true rfl) (Nat.le_of_ble_eq_true rfl) rfl (fun z_1 M_2 h_3 p_4 => ?_)
  obtain ⟨rfl, b_6⟩ := p_4
  refine g_if_eq (n := 8) (t := 21) hx (dq tX9_owes 3 rfl) (by decide) rfl h_3 (fun c_10 => ?_) (fun c_10 => ?_)
  · clear b_6
    refine g_iconst (n := 22) hx (dq tX9_owes 11 rfl) rfl ?_
    exact g_iret hx hr (dq tX9_owes 12 rfl) ⟨by decide, by decide⟩ rfl
  · have b_6 := b_6.resolve_left c_10
    obtain ⟨-, h_7, h_8, h_9⟩ := b_6
    refine g_aload_n (n := 9) hx 0 (dq tX9_owes 4 rfl) rfl rfl ?_
    refine g_iload_n (n := 10) hx 2 (dq tX9_owes 5 rfl) rfl rfl ?_
    refine g_callVi (n := 13) (As := [vI other]) (rest := []) hx (ctX9_isVillage Γ M other (by omega) (by omega)) mlX9_136 (obX9 (by decide)) (dq tX9_owes 6 rfl) rfl (Nat.le_of_ble_eq_true rfl) (Nat.le_of_ble_eq_true rfl) (Nat.le_of_ble_eq_true rfl) rfl (fun z_11 M_12 h_13 p_14 => ?_)
    obtain ⟨rfl, b_16⟩ := p_14
    refine g_if_eq (n := 16) (t := 21) hx (dq tX9_owes 7 rfl) (by decide) rfl h_13 (fun c_20 => ?_) (fun c_20 => ?_)
    · clear b_16
      refine g_iconst (n := 22) hx (dq tX9_owes 11 rfl) rfl ?_
      exact g_iret hx hr (dq tX9_owes 12 rfl) ⟨by decide, by decide⟩ rfl
    · have b_16 := b_16.resolve_left c_20
      obtain ⟨-, h_17, h_18, h_19⟩ := b_16
      refine g_iload_n (n := 17) hx 1 (dq tX9_owes 8 rfl) rfl rfl ?_
      refine g_iload_n (n := 18) hx 2 (dq tX9_owes 9 rfl) rfl rfl ?_
      refine g_icmp_ne (n := 21) (t := 23) hx (dq tX9_owes 10 rfl) (by decide) rfl (zrI honel honeu (by decide) (by decide)) (zrI hotherl hotheru (by decide) (by decide)) (fun c_21 => ?_) (fun c_21 => ?_)
      · refine g_aload_n (n := 24) hx 0 (dq tX9_owes 13 rfl) rfl rfl ?_
        refine g_getR (n := 27) hx glX9_47 (sX9_5 (by decide)) (dq tX9_owes 14 rfl) rfl ?_
        refine g_getR (n := 30) hx glX9_109 (sX8_2 (by decide)) (dq tX9_owes 15 rfl) rfl ?_
        refine g_getR (n := 33) hx glX9_375 (sX0_3 (iX8_2 (by decide))) (dq tX9_owes 16 rfl) rfl ?_
        refine g_iload_n (n := 34) hx 1 (dq tX9_owes 17 rfl) rfl rfl ?_
        refine g_bipush (n := 36) hx (dq tX9_owes 18 rfl) rfl (by decide) ?_
        refine g_imul (n := 37) hx (dq tX9_owes 19 rfl) rfl ?_
        refine g_iload_n (n := 38) hx 2 (dq tX9_owes 20 rfl) rfl rfl ?_
        refine g_iadd (n := 39) hx (dq tX9_owes 21 rfl) rfl ?_
        refine g_iald (n := 40) (q := ((one * 6) + other).toNat) hx (aX0_3 (b := 45 + 11) (iX8_2 (by decide))) (dq tX9_owes 22 rfl) rfl (by omega) (by omega) (by omega) rfl (fun h_22l h_22u => ?_)
        exact g_iret hx hr (dq tX9_owes 23 rfl) (zrI h_22l h_22u (by decide) (by decide)) rfl
      · refine g_iconst (n := 22) hx (dq tX9_owes 11 rfl) rfl ?_
        exact g_iret hx hr (dq tX9_owes 12 rfl) ⟨by decide, by decide⟩ rfl

abbrev qctX9_payments (M : zM)  (z : Int) (M' : zM) : Prop := (∀ u_ v_, (u_ < 0 + 3 ∨ 0 + 7 ≤ u_) ∧ (u_ ≠ 45 ∨ v_ ≠ 8) ∧ (u_ < 45 + 3 ∨ 45 + 11 ≤ u_) ∧ (u_ ≠ 45 + 11 ∨ v_ ≠ 1) ∧ (u_ ≠ 45 + 11 ∨ v_ ≠ 4) ∧ (u_ ≠ 45 + 11 ∨ v_ ≠ 11) ∧ (u_ < 45 + 12 ∨ 45 + 28 ≤ u_) ∧ (u_ < 73 ∨ 73 + 28 ≤ u_) → M' u_ v_ = M u_ v_) ∧ Gd M' 37 (45 + 1)
set_option maxHeartbeats 4000000 in
set_option maxRecDepth 100000 in
theorem ctX9_payments (Γ : Gam) (M : zM)  (gd0 : Gd M 37 (45 + 1)) : CtI Γ yX9_payments cX9_payments 7 (some .int) 1 23 [aR Γ 0] M (qctX9_payments M) := by
  refine met_i (by decide) (Nat.le_of_ble_eq_true rfl) (fun x hx hr => ?_)
  show G Γ x 7 (QI Γ x (qctX9_payments M)) M 0 [(0, aR Γ 0)] []
  refine g_aload_n (n := 1) hx 0 (dq tX9_payments 0 rfl) rfl rfl ?_
  refine g_callVi (n := 4) (As := []) (rest := []) hx (ctX9_hasRiver Γ M ) mlX9_126 (obX9 (by decide)) (dq tX9_payments 1 rfl) rfl (Nat.le_of_ble_eq_true rfl) (Nat.le_of_ble_eq_true rfl) (Nat.le_of_ble_eq_true rfl) rfl (fun z_1 M_2 h_3 p_4 => ?_)
  obtain ⟨rfl, b_6⟩ := p_4
  refine g_if_ne (n := 7) (t := 9) hx (dq tX9_payments 2 rfl) (by decide) rfl h_3 (fun c_8 => ?_) (fun c_8 => ?_)
  · have b_6 := b_6.resolve_left c_8
    obtain ⟨-, h_7⟩ := b_6
    refine g_aload_n (n := 10) hx 0 (dq tX9_payments 5 rfl) rfl rfl ?_
    refine g_getR (n := 13) hx glX9_47 (sX9_5 (by decide)) (dq tX9_payments 6 rfl) rfl ?_
    refine g_getR (n := 16) hx glX9_51 (sX8_0 (by decide)) (dq tX9_payments 7 rfl) rfl ?_
    refine g_getI (n := 19) hx glX9_378 (sX2_1 (by decide)) (dq tX9_payments 8 rfl) rfl (fun h_9l h_9u => ?_)
    refine g_istore_n (n := 20) (lv' := [(1, vI (M 37 1)), (0, aR Γ 0)]) hx (dq tX9_payments 9 rfl) (by decide) rfl rfl ?_
    refine g_iconst (n := 21) hx (dq tX9_payments 10 rfl) rfl ?_
    refine g_istore_n (n := 22) (lv' := [(2, vI 1), (1, vI (M 37 1)), (0, aR Γ 0)]) hx (dq tX9_payments 11 rfl) (by decide) rfl rfl ?_
    have L_12 : ∀ (n_ : Nat) (i_10 : Int) (M_11 : zM), (1 ≤ i_10) → (i_10 ≤ 64) → (∀ u_ v_, u_ ≠ 6 → M_11 u_ v_ = M u_ v_) → (Gd M_11 37 (45 + 1)) → ((64 - i_10).toNat = n_) → G Γ x 7 (QI Γ x (qctX9_payments M)) M_11 22 [(2, vI i_10), (1, vI (M 37 1)), (0, aR Γ 0)] [] := by
      intro n_
      induction n_ using Nat.strongRecOn with
      | _ n_ ih_13 =>
        intro i_10 M_11 h_17 h_18 f_14 g_15 hm_16
        refine g_iload_n (n := 23) hx 0 (dq tX9_payments 12 rfl) rfl rfl ?_
        refine g_iconst (n := 24) hx (dq tX9_payments 13 rfl) rfl ?_
        refine g_iload_n (n := 25) hx 1 (dq tX9_payments 14 rfl) rfl rfl ?_
        refine g_ishl1 (n := 26) hx (dq tX9_payments 15 rfl) rfl (by omega) (by omega) ?_
        refine g_nam (fun z_19 h_20 => ?_)
        have h_211 := pw1 (k := 6) (by omega) (by omega) h_20
        obtain ⟨h_212, h_213⟩ := h_211
        refine g_icmp_ge (n := 29) (t := 120) hx (dq tX9_payments 16 rfl) (by decide) rfl ⟨by omega, by omega⟩ ⟨by omega, by omega⟩ (fun c_22 => ?_) (fun c_22 => ?_)
        · refine g_iload_n (n := 121) hx 1 (dq tX9_payments 70 rfl) rfl rfl ?_
          refine g_aload_n (n := 122) hx 2 (dq tX9_payments 71 rfl) rfl rfl ?_
          refine g_getR (n := 125) hx glX9_75 (sX9_11 (by decide)) (dq tX9_payments 72 rfl) rfl ?_
          refine g_iconst (n := 126) hx (dq tX9_payments 73 rfl) rfl ?_
          refine g_iload_n (n := 127) hx 1 (dq tX9_payments 74 rfl) rfl rfl ?_
          refine g_ishl1 (n := 128) hx (dq tX9_payments 75 rfl) rfl (by omega) (by omega) ?_
          refine g_nam (fun z_23 h_24 => ?_)
          have h_251 := pw1 (k := 6) (by omega) (by omega) h_24
          obtain ⟨h_252, h_253⟩ := h_251
          refine g_iconst (n := 129) hx (dq tX9_payments 76 rfl) rfl ?_
          refine g_isub (n := 130) hx (dq tX9_payments 77 rfl) rfl ?_
          refine g_iald (n := 131) (q := (z_23 - 1).toNat) hx (aX9_11 (b := 0) (by decide)) (dq tX9_payments 78 rfl) rfl (by omega) (by omega) (by omega) rfl (fun h_26l h_26u => ?_)
          refine g_isub (n := 132) hx (dq tX9_payments 79 rfl) rfl ?_
          refine g_any (fun z_27 h_28 => ?_)
          exact g_iret hx hr (dq tX9_payments 80 rfl) h_28 ⟨(fun u_ v_ huv_ => (f_14 u_ v_ (by omega))), g_15⟩
        · refine g_lconst (n := 30) (z := 0) hx (dq tX9_payments 17 rfl) rfl (by decide) ?_
          refine g_lstore_n (n := 31) (lv' := [(3, vL 0), (2, vI i_10), (1, vI (M 37 1)), (0, aR Γ 0)]) hx (dq tX9_payments 18 rfl) (by decide) rfl rfl ?_
          refine g_iconst (n := 32) hx (dq tX9_payments 19 rfl) rfl ?_
          refine g_istore (n := 34) (lv' := [(5, vI 0), (3, vL 0), (2, vI i_10), (1, vI (M 37 1)), (0, aR Γ 0)]) hx (dq tX9_payments 20 rfl) (by decide) rfl rfl ?_
          refine g_iconst (n := 35) hx (dq tX9_payments 21 rfl) rfl ?_
          refine g_istore (n := 37) (lv' := [(6, vI 0), (5, vI 0), (3, vL 0), (2, vI i_10), (1, vI (M 37 1)), (0, aR Γ 0)]) hx (dq tX9_payments 22 rfl) (by decide) rfl rfl ?_
          have L_32 : ∀ (n_ : Nat) (i_29 : Int) (i_30 : Int) (i_31 : Int64), (0 ≤ i_29) → (i_29 ≤ 6) → (0 ≤ i_30) → (i_30 ≤ 2147483647) → ((6 - i_29).toNat = n_) → G Γ x 7 (QI Γ x (qctX9_payments M)) M_11 37 [(6, vI i_29), (5, vI i_30), (3, .long i_31), (2, vI i_10), (1, vI (M 37 1)), (0, aR Γ 0)] [] := by
            intro n_
            induction n_ using Nat.strongRecOn with
            | _ n_ ih_33 =>
              intro i_29 i_30 i_31 h_36 h_37 h_38 h_39 hm_35
              refine g_iload (n := 39) hx 0 (dq tX9_payments 23 rfl) rfl rfl ?_
              refine g_iload_n (n := 40) hx 4 (dq tX9_payments 24 rfl) rfl rfl ?_
              refine g_icmp_ge (n := 43) (t := 93) hx (dq tX9_payments 25 rfl) (by decide) rfl ⟨by omega, by omega⟩ (zrI h_9l h_9u (by decide) (by decide)) (fun c_40 => ?_) (fun c_40 => ?_)
              · refine g_aload_n (n := 94) hx 5 (dq tX9_payments 55 rfl) rfl rfl ?_
                refine g_getR (n := 97) hx glX9_75 (sX9_11 (by decide)) (dq tX9_payments 56 rfl) rfl ?_
                refine g_iload_n (n := 98) hx 3 (dq tX9_payments 57 rfl) rfl rfl ?_
                refine g_lload_n (n := 99) hx 2 (dq tX9_payments 58 rfl) rfl rfl ?_
                refine g_lconst (n := 100) (z := 0) hx (dq tX9_payments 59 rfl) rfl (by decide) ?_
                refine g_lcmpU (n := 101) hx (dq tX9_payments 60 rfl) rfl (fun z_41 h_421 h_422 h_423 h_424 => ?_)
                refine g_if_ne (n := 104) (t := 111) hx (dq tX9_payments 61 rfl) (by decide) rfl ⟨by omega, by omega⟩ (fun c_43 => ?_) (fun c_43 => ?_)
                · refine g_iload (n := 113) hx 1 (dq tX9_payments 66 rfl) rfl rfl ?_
                  refine g_iast (n := 114) (q := i_10.toNat) hx (aX9_11 (b := 0) (by decide)) (dq tX9_payments 67 rfl) rfl (by omega) (by omega) (by omega) rfl (by omega) (by omega) (fun M_44 m_45e m_45 => ?_)
                  have g_46 : Gd M_44 37 (45 + 1) := Gd.frame g_15 (fun c j hcj => m_45 c j (by omega))
                  refine g_iinc (n := 117) (lv' := [(2, vI (i_10 + 1)), (6, vI i_29), (5, vI i_30), (3, .long i_31), (1, vI (M 37 1)), (0, aR Γ 0)]) hx 3 (dq tX9_payments 68 rfl) rfl (by decide) rfl rfl ?_
                  refine g_goto (n := 22) hx (dq tX9_payments 69 rfl) (by decide) ?_
                  refine g_lv [0, 4, 5] rfl ?_
                  exact ih_13 _ (by omega) (i_10 + 1) M_44 (by omega) (by omega) (fun u_ v_ huv_ => ((m_45 u_ v_ (by omega)).trans (f_14 u_ v_ (by omega)))) g_46 rfl
                · refine g_iload (n := 106) hx 1 (dq tX9_payments 62 rfl) rfl rfl ?_
                  refine g_iconst (n := 107) hx (dq tX9_payments 63 rfl) rfl ?_
                  refine g_iadd (n := 108) hx (dq tX9_payments 64 rfl) rfl ?_
                  refine g_goto (n := 113) hx (dq tX9_payments 65 rfl) (by decide) ?_
                  refine g_any (fun z_47 h_48 => ?_)
                  refine g_iast (n := 114) (q := i_10.toNat) hx (aX9_11 (b := 0) (by decide)) (dq tX9_payments 67 rfl) rfl (by omega) (by omega) (by omega) rfl (by omega) (by omega) (fun M_49 m_50e m_50 => ?_)
                  have g_51 : Gd M_49 37 (45 + 1) := Gd.frame g_15 (fun c j hcj => m_50 c j (by omega))
                  refine g_iinc (n := 117) (lv' := [(2, vI (i_10 + 1)), (6, vI i_29), (5, vI i_30), (3, .long i_31), (1, vI (M 37 1)), (0, aR Γ 0)]) hx 3 (dq tX9_payments 68 rfl) rfl (by decide) rfl rfl ?_
                  refine g_goto (n := 22) hx (dq tX9_payments 69 rfl) (by decide) ?_
                  refine g_lv [0, 4, 5] rfl ?_
                  exact ih_13 _ (by omega) (i_10 + 1) M_49 (by omega) (by omega) (fun u_ v_ huv_ => ((m_50 u_ v_ (by omega)).trans (f_14 u_ v_ (by omega)))) g_51 rfl
              · refine g_iload_n (n := 44) hx 3 (dq tX9_payments 26 rfl) rfl rfl ?_
                refine g_iload (n := 46) hx 0 (dq tX9_payments 27 rfl) rfl rfl ?_
                refine g_ishr (n := 47) hx (dq tX9_payments 28 rfl) rfl (fun z_52 h_53 => ?_)
                refine g_iconst (n := 48) hx (dq tX9_payments 29 rfl) rfl ?_
                refine g_iand (n := 49) hx (dq tX9_payments 30 rfl) rfl (fun z_55 h_56 h_571 h_572 => ?_)
                obtain ⟨h_573, h_574⟩ := h_571 (by omega) (by omega)
                clear h_571 h_572
                refine g_iconst (n := 50) hx (dq tX9_payments 31 rfl) rfl ?_
                refine g_icmp_ne (n := 53) (t := 87) hx (dq tX9_payments 32 rfl) (by decide) rfl h_56 ⟨by decide, by decide⟩ (fun c_58 => ?_) (fun c_58 => ?_)
                · refine g_iinc (n := 90) (lv' := [(6, vI (i_29 + 1)), (5, vI i_30), (3, .long i_31), (2, vI i_10), (1, vI (M 37 1)), (0, aR Γ 0)]) hx 0 (dq tX9_payments 53 rfl) rfl (by decide) rfl rfl ?_
                  refine g_goto (n := 37) hx (dq tX9_payments 54 rfl) (by decide) ?_
                  exact ih_33 _ (by omega) (i_29 + 1) i_30 i_31 (by omega) (by omega) (by omega) (by omega) rfl
                · refine g_lload_n (n := 54) hx 2 (dq tX9_payments 33 rfl) rfl rfl ?_
                  refine g_aload_n (n := 55) hx 5 (dq tX9_payments 34 rfl) rfl rfl ?_
                  refine g_getR (n := 58) hx glX9_47 (sX9_5 (by decide)) (dq tX9_payments 35 rfl) rfl ?_
                  refine g_getR (n := 61) hx glX9_109 (sX8_2 (by decide)) (dq tX9_payments 36 rfl) rfl ?_
                  refine g_iload (n := 63) hx 0 (dq tX9_payments 37 rfl) rfl rfl ?_
                  have e_59 : M_11 37 1 = M 37 1 := (f_14 37 1 (by omega))
                  have e_60 : M_11 37 3 = M 37 3 := (f_14 37 3 (by omega))
                  refine g_callVi (n := 66) (As := [vI i_29]) (rest := [.long i_31]) hx (ctX0_net Γ M_11 (45 + 11) (iX8_2 (by decide)) i_29 (by omega) (by omega)) mlX9_177 (obX0 (iX8_2 (by decide))) (dq tX9_payments 38 rfl) rfl (Nat.le_of_ble_eq_true rfl) (Nat.le_of_ble_eq_true rfl) (Nat.le_of_ble_eq_true rfl) rfl (fun z_61 M_62 h_63 p_64 => ?_)
                  obtain rfl := p_64
                  refine g_i2l (n := 67) hx (dq tX9_payments 39 rfl) rfl h_63 ?_
                  refine g_ladd (n := 68) hx (dq tX9_payments 40 rfl) rfl (fun w_66 => ?_)
                  refine g_lstore_n (n := 69) (lv' := [(3, .long w_66), (6, vI i_29), (5, vI i_30), (2, vI i_10), (1, vI (M 37 1)), (0, aR Γ 0)]) hx (dq tX9_payments 41 rfl) (by decide) rfl rfl ?_
                  refine g_iload (n := 71) hx 2 (dq tX9_payments 42 rfl) rfl rfl ?_
                  refine g_aload_n (n := 72) hx 5 (dq tX9_payments 43 rfl) rfl rfl ?_
                  refine g_getR (n := 75) hx glX9_75 (sX9_11 (by decide)) (dq tX9_payments 44 rfl) rfl ?_
                  refine g_iload_n (n := 76) hx 3 (dq tX9_payments 45 rfl) rfl rfl ?_
                  refine g_iconst (n := 77) hx (dq tX9_payments 46 rfl) rfl ?_
                  refine g_iload (n := 79) hx 1 (dq tX9_payments 47 rfl) rfl rfl ?_
                  refine g_ishl1 (n := 80) hx (dq tX9_payments 48 rfl) rfl (by omega) (by omega) ?_
                  refine g_nam (fun z_67 h_68 => ?_)
                  have h_691 := pw1 (k := 5) (by omega) (by omega) h_68
                  obtain ⟨h_692, h_693⟩ := h_691
                  refine g_ixor (n := 81) hx (dq tX9_payments 49 rfl) rfl (fun z_70 h_71 h_72 h_72s => ?_)
                  obtain ⟨h_723, h_724⟩ := h_72 6 (by decide) (by omega) (by omega) (by omega) (by omega)
                  clear h_72 h_72s
                  refine g_iald (n := 82) (q := z_70.toNat) hx (aX9_11 (b := 0) (by decide)) (dq tX9_payments 50 rfl) rfl (by omega) (by omega) (by omega) rfl (fun h_73l h_73u => ?_)
                  refine g_max (n := 85) hx wd_1067 wd_717 wd_17 wd_718 (dq tX9_payments 51 rfl) rfl (Nat.le_of_ble_eq_true rfl) (Nat.le_of_ble_eq_true rfl) ⟨by omega, by omega⟩ (zrI h_73l h_73u (by decide) (by decide)) (fun z_74 h_75 h_751 h_752 h_753 => ?_)
                  refine g_istore (n := 87) (lv' := [(5, vI z_74), (3, .long w_66), (6, vI i_29), (2, vI i_10), (1, vI (M 37 1)), (0, aR Γ 0)]) hx (dq tX9_payments 52 rfl) (by decide) rfl rfl ?_
                  refine g_iinc (n := 90) (lv' := [(6, vI (i_29 + 1)), (5, vI z_74), (3, .long w_66), (2, vI i_10), (1, vI (M 37 1)), (0, aR Γ 0)]) hx 2 (dq tX9_payments 53 rfl) rfl (by decide) rfl rfl ?_
                  refine g_goto (n := 37) hx (dq tX9_payments 54 rfl) (by decide) ?_
                  exact ih_33 _ (by omega) (i_29 + 1) z_74 w_66 (by omega) (by omega) (by omega) (by omega) rfl
          exact L_32 _ 0 0 (Int64.ofInt 0) (by omega) (by omega) (by omega) (by omega) rfl
    exact L_12 _ 1 M (by omega) (by omega) (fun _ _ _ => rfl) gd0 rfl
  · clear b_6
    refine g_iconst (n := 8) hx (dq tX9_payments 3 rfl) rfl ?_
    exact g_iret hx hr (dq tX9_payments 4 rfl) ⟨by decide, by decide⟩ ⟨(fun _ _ _ => rfl), gd0⟩

abbrev qctX9_repaid (M : zM) (one : Int) (other : Int) (what : Int) (z : Int) (M' : zM) : Prop := M = M'
set_option maxHeartbeats 4000000 in
set_option maxRecDepth 100000 in
theorem ctX9_repaid (Γ : Gam) (M : zM) (one : Int) (honel : (-2147483648) ≤ one) (honeu : one ≤ 2147483647) (other : Int) (hotherl : (-2147483648) ≤ other) (hotheru : other ≤ 2147483647) (what : Int) (hwhatl : (-2147483648) ≤ what) (hwhatu : what ≤ 2147483647) (gd0 : Gd M 37 (45 + 1)) : CtI Γ yX9_repaid cX9_repaid 11 (some .int) 4 102 [aR Γ 0, vI one, vI other, vI what] M (qctX9_repaid M one other what) := by
  refine met_i (by decide) (Nat.le_of_ble_eq_true rfl) (fun x hx hr => ?_)
  show G Γ x 11 (QI Γ x (qctX9_repaid M one other what)) M 0 [(0, aR Γ 0), (1, vI one), (2, vI other), (3, vI what)] []
  refine g_aload_n (n := 1) hx 0 (dq tX9_repaid 0 rfl) rfl rfl ?_
  refine g_iload_n (n := 2) hx 1 (dq tX9_repaid 1 rfl) rfl rfl ?_
  refine g_callVi (n := 5) (As := [vI one]) (rest := []) hx (ctX9_isVillage Γ M one (by omega) (by omega)) mlX9_136 (obX9 (by decide)) (dq tX9_repaid 2 rfl) rfl (Nat.le_of_ble_eq_true rfl) (Nat.le_of_ble_eq_true rfl) (Nat.le_of_ble_eq_true rfl) rfl (fun z_1 M_2 h_3 p_4 => ?_)
  obtain ⟨rfl, b_6⟩ := p_4
  refine g_if_eq (n := 8) (t := 30) hx (dq tX9_repaid 3 rfl) (by decide) rfl h_3 (fun c_10 => ?_) (fun c_10 => ?_)
  · clear b_6
    refine g_iconst (n := 31) hx (dq tX9_repaid 16 rfl) rfl ?_
    exact g_iret hx hr (dq tX9_repaid 17 rfl) ⟨by decide, by decide⟩ rfl
  · have b_6 := b_6.resolve_left c_10
    obtain ⟨-, h_7, h_8, h_9⟩ := b_6
    refine g_aload_n (n := 9) hx 0 (dq tX9_repaid 4 rfl) rfl rfl ?_
    refine g_iload_n (n := 10) hx 2 (dq tX9_repaid 5 rfl) rfl rfl ?_
    refine g_callVi (n := 13) (As := [vI other]) (rest := []) hx (ctX9_isVillage Γ M other (by omega) (by omega)) mlX9_136 (obX9 (by decide)) (dq tX9_repaid 6 rfl) rfl (Nat.le_of_ble_eq_true rfl) (Nat.le_of_ble_eq_true rfl) (Nat.le_of_ble_eq_true rfl) rfl (fun z_11 M_12 h_13 p_14 => ?_)
    obtain ⟨rfl, b_16⟩ := p_14
    refine g_if_eq (n := 16) (t := 30) hx (dq tX9_repaid 7 rfl) (by decide) rfl h_13 (fun c_20 => ?_) (fun c_20 => ?_)
    · clear b_16
      refine g_iconst (n := 31) hx (dq tX9_repaid 16 rfl) rfl ?_
      exact g_iret hx hr (dq tX9_repaid 17 rfl) ⟨by decide, by decide⟩ rfl
    · have b_16 := b_16.resolve_left c_20
      obtain ⟨-, h_17, h_18, h_19⟩ := b_16
      refine g_iload_n (n := 17) hx 1 (dq tX9_repaid 8 rfl) rfl rfl ?_
      refine g_iload_n (n := 18) hx 2 (dq tX9_repaid 9 rfl) rfl rfl ?_
      refine g_icmp_eq (n := 21) (t := 30) hx (dq tX9_repaid 10 rfl) (by decide) rfl (zrI honel honeu (by decide) (by decide)) (zrI hotherl hotheru (by decide) (by decide)) (fun c_21 => ?_) (fun c_21 => ?_)
      · refine g_iconst (n := 31) hx (dq tX9_repaid 16 rfl) rfl ?_
        exact g_iret hx hr (dq tX9_repaid 17 rfl) ⟨by decide, by decide⟩ rfl
      · refine g_iload_n (n := 22) hx 3 (dq tX9_repaid 11 rfl) rfl rfl ?_
        refine g_if_lt (n := 25) (t := 30) hx (dq tX9_repaid 12 rfl) (by decide) rfl (zrI hwhatl hwhatu (by decide) (by decide)) (fun c_22 => ?_) (fun c_22 => ?_)
        · refine g_iconst (n := 31) hx (dq tX9_repaid 16 rfl) rfl ?_
          exact g_iret hx hr (dq tX9_repaid 17 rfl) ⟨by decide, by decide⟩ rfl
        · refine g_iload_n (n := 26) hx 3 (dq tX9_repaid 13 rfl) rfl rfl ?_
          refine g_iconst (n := 27) hx (dq tX9_repaid 14 rfl) rfl ?_
          refine g_icmp_le (n := 30) (t := 32) hx (dq tX9_repaid 15 rfl) (by decide) rfl (zrI hwhatl hwhatu (by decide) (by decide)) ⟨by decide, by decide⟩ (fun c_23 => ?_) (fun c_23 => ?_)
          · refine g_aload_n (n := 33) hx 0 (dq tX9_repaid 18 rfl) rfl rfl ?_
            refine g_getR (n := 36) hx glX9_47 (sX9_5 (by decide)) (dq tX9_repaid 19 rfl) rfl ?_
            refine g_getR (n := 39) hx glX9_109 (sX8_2 (by decide)) (dq tX9_repaid 20 rfl) rfl ?_
            refine g_getR (n := 42) hx glX9_375 (sX0_3 (iX8_2 (by decide))) (dq tX9_repaid 21 rfl) rfl ?_
            refine g_iload_n (n := 43) hx 1 (dq tX9_repaid 22 rfl) rfl rfl ?_
            refine g_bipush (n := 45) hx (dq tX9_repaid 23 rfl) rfl (by decide) ?_
            refine g_imul (n := 46) hx (dq tX9_repaid 24 rfl) rfl ?_
            refine g_iload_n (n := 47) hx 2 (dq tX9_repaid 25 rfl) rfl rfl ?_
            refine g_iadd (n := 48) hx (dq tX9_repaid 26 rfl) rfl ?_
            refine g_iald (n := 49) (q := ((one * 6) + other).toNat) hx (aX0_3 (b := 45 + 11) (iX8_2 (by decide))) (dq tX9_repaid 27 rfl) rfl (by omega) (by omega) (by omega) rfl (fun h_24l h_24u => ?_)
            refine g_istore (n := 51) (lv' := [(4, vI (M (45 + 11 + 2) (((one * 6) + other).toNat))), (0, aR Γ 0), (1, vI one), (2, vI other), (3, vI what)]) hx (dq tX9_repaid 28 rfl) (by decide) rfl rfl ?_
            refine g_aload_n (n := 52) hx 1 (dq tX9_repaid 29 rfl) rfl rfl ?_
            refine g_getR (n := 55) hx glX9_47 (sX9_5 (by decide)) (dq tX9_repaid 30 rfl) rfl ?_
            refine g_bipush (n := 57) hx (dq tX9_repaid 31 rfl) rfl (by decide) ?_
            refine g_iload_n (n := 58) hx 2 (dq tX9_repaid 32 rfl) rfl rfl ?_
            refine g_iadd (n := 59) hx (dq tX9_repaid 33 rfl) rfl ?_
            refine g_callVi (n := 62) (As := [vI (20 + one)]) (rest := []) hx (ctX8_logsAt Γ M 45 (by decide) (20 + one) (by omega) (by omega)) mlX9_160 (obX8 (by decide)) (dq tX9_repaid 34 rfl) rfl (Nat.le_of_ble_eq_true rfl) (Nat.le_of_ble_eq_true rfl) (Nat.le_of_ble_eq_true rfl) rfl (fun z_25 M_26 h_27 p_28 => ?_)
            obtain rfl := p_28
            refine g_aload_n (n := 63) hx 1 (dq tX9_repaid 35 rfl) rfl rfl ?_
            refine g_getR (n := 66) hx glX9_47 (sX9_5 (by decide)) (dq tX9_repaid 36 rfl) rfl ?_
            refine g_iload_n (n := 67) hx 2 (dq tX9_repaid 37 rfl) rfl rfl ?_
            refine g_callVi (n := 70) (As := [vI one]) (rest := [vI z_25]) hx (ctX8_logsOf Γ M 45 (by decide) one (by omega) (by omega) gd0) mlX9_174 (obX8 (by decide)) (dq tX9_repaid 38 rfl) rfl (Nat.le_of_ble_eq_true rfl) (Nat.le_of_ble_eq_true rfl) (Nat.le_of_ble_eq_true rfl) rfl (fun z_30 M_31 h_32 p_33 => ?_)
            obtain rfl := p_33
            refine g_iand (n := 71) hx (dq tX9_repaid 39 rfl) rfl (fun z_35 h_36 h_371 h_372 => ?_)
            clear h_371 h_372
            refine g_istore (n := 73) (lv' := [(5, vI z_35), (4, vI (M (45 + 11 + 2) (((one * 6) + other).toNat))), (0, aR Γ 0), (1, vI one), (2, vI other), (3, vI what)]) hx (dq tX9_repaid 40 rfl) (by decide) rfl rfl ?_
            refine g_iconst (n := 74) hx (dq tX9_repaid 41 rfl) rfl ?_
            refine g_istore (n := 76) (lv' := [(6, vI (-1)), (5, vI z_35), (4, vI (M (45 + 11 + 2) (((one * 6) + other).toNat))), (0, aR Γ 0), (1, vI one), (2, vI other), (3, vI what)]) hx (dq tX9_repaid 42 rfl) (by decide) rfl rfl ?_
            refine g_iconst (n := 77) hx (dq tX9_repaid 43 rfl) rfl ?_
            refine g_istore (n := 79) (lv' := [(7, vI 0), (6, vI (-1)), (5, vI z_35), (4, vI (M (45 + 11 + 2) (((one * 6) + other).toNat))), (0, aR Γ 0), (1, vI one), (2, vI other), (3, vI what)]) hx (dq tX9_repaid 44 rfl) (by decide) rfl rfl ?_
            refine g_iconst (n := 80) hx (dq tX9_repaid 45 rfl) rfl ?_
            refine g_istore (n := 82) (lv' := [(8, vI 0), (7, vI 0), (6, vI (-1)), (5, vI z_35), (4, vI (M (45 + 11 + 2) (((one * 6) + other).toNat))), (0, aR Γ 0), (1, vI one), (2, vI other), (3, vI what)]) hx (dq tX9_repaid 46 rfl) (by decide) rfl rfl ?_
            refine g_iconst (n := 83) hx (dq tX9_repaid 47 rfl) rfl ?_
            refine g_istore (n := 85) (lv' := [(9, vI 0), (8, vI 0), (7, vI 0), (6, vI (-1)), (5, vI z_35), (4, vI (M (45 + 11 + 2) (((one * 6) + other).toNat))), (0, aR Γ 0), (1, vI one), (2, vI other), (3, vI what)]) hx (dq tX9_repaid 48 rfl) (by decide) rfl rfl ?_
            have L_42 : ∀ (n_ : Nat) (i_38 : Int) (i_39 : Int) (i_40 : Int) (i_41 : Int), (0 ≤ i_38) → (i_38 ≤ 4096) → ((-2147483648) ≤ i_39) → (i_39 ≤ 2147483647) → ((-2147483648) ≤ i_40) → (i_40 ≤ 2147483647) → ((-2147483648) ≤ i_41) → (i_41 ≤ 2147483647) → ((4096 - i_38).toNat = n_) → G Γ x 11 (QI Γ x (qctX9_repaid M one other what)) M 85 [(9, vI i_38), (8, vI i_39), (7, vI i_40), (6, vI i_41), (5, vI z_35), (4, vI (M (45 + 11 + 2) (((one * 6) + other).toNat))), (0, aR Γ 0), (1, vI one), (2, vI other), (3, vI what)] [] := by
              intro n_
              induction n_ using Nat.strongRecOn with
              | _ n_ ih_43 =>
                intro i_38 i_39 i_40 i_41 h_46 h_47 h_48 h_49 h_50 h_51 h_52 h_53 hm_45
                refine g_iload (n := 87) hx 0 (dq tX9_repaid 49 rfl) rfl rfl ?_
                refine g_sipush (n := 90) hx (dq tX9_repaid 50 rfl) rfl (by decide) ?_
                refine g_icmp_ge (n := 93) (t := 178) hx (dq tX9_repaid 51 rfl) (by decide) rfl ⟨by omega, by omega⟩ ⟨by decide, by decide⟩ (fun c_54 => ?_) (fun c_54 => ?_)
                · refine g_iload (n := 180) hx 3 (dq tX9_repaid 90 rfl) rfl rfl ?_
                  refine g_iconst (n := 181) hx (dq tX9_repaid 91 rfl) rfl ?_
                  refine g_icmp_ne (n := 184) (t := 187) hx (dq tX9_repaid 92 rfl) (by decide) rfl ⟨by omega, by omega⟩ ⟨by decide, by decide⟩ (fun c_55 => ?_) (fun c_55 => ?_)
                  · refine g_iload_n (n := 188) hx 9 (dq tX9_repaid 95 rfl) rfl rfl ?_
                    refine g_if_ne (n := 191) (t := 196) hx (dq tX9_repaid 96 rfl) (by decide) rfl (zrI hwhatl hwhatu (by decide) (by decide)) (fun c_56 => ?_) (fun c_56 => ?_)
                    · refine g_iload (n := 198) hx 3 (dq tX9_repaid 99 rfl) rfl rfl ?_
                      exact g_iret hx hr (dq tX9_repaid 100 rfl) ⟨by omega, by omega⟩ rfl
                    · refine g_iload (n := 193) hx 2 (dq tX9_repaid 97 rfl) rfl rfl ?_
                      refine g_goto (n := 198) hx (dq tX9_repaid 98 rfl) (by decide) ?_
                      exact g_iret hx hr (dq tX9_repaid 100 rfl) ⟨by omega, by omega⟩ rfl
                  · refine g_bipush (n := 186) hx (dq tX9_repaid 93 rfl) rfl (by decide) ?_
                    exact g_iret hx hr (dq tX9_repaid 94 rfl) ⟨by decide, by decide⟩ rfl
                · refine g_aload_n (n := 94) hx 6 (dq tX9_repaid 52 rfl) rfl rfl ?_
                  refine g_getR (n := 97) hx glX9_47 (sX9_5 (by decide)) (dq tX9_repaid 53 rfl) rfl ?_
                  refine g_iload (n := 99) hx 1 (dq tX9_repaid 54 rfl) rfl rfl ?_
                  refine g_callVi (n := 102) (As := [vI i_39]) (rest := []) hx (ctX8_priceOfSet Γ M 45 (by decide) i_39 (by omega) (by omega) gd0) mlX9_384 (obX8 (by decide)) (dq tX9_repaid 55 rfl) rfl (Nat.le_of_ble_eq_true rfl) (Nat.le_of_ble_eq_true rfl) (Nat.le_of_ble_eq_true rfl) rfl (fun z_57 M_58 h_59 p_60 => ?_)
                  obtain rfl := p_60
                  refine g_istore (n := 104) (lv' := [(10, vI z_57), (9, vI i_38), (8, vI i_39), (7, vI i_40), (6, vI i_41), (5, vI z_35), (4, vI (M (45 + 11 + 2) (((one * 6) + other).toNat))), (0, aR Γ 0), (1, vI one), (2, vI other), (3, vI what)]) hx (dq tX9_repaid 56 rfl) (by decide) rfl rfl ?_
                  refine g_iload (n := 106) hx 0 (dq tX9_repaid 57 rfl) rfl rfl ?_
                  refine g_iload (n := 108) hx 6 (dq tX9_repaid 58 rfl) rfl rfl ?_
                  have J_65 : ∀ (j_63 : Int) (j_64 : Int),  ((-2147483648) ≤ j_63) → (j_63 ≤ 2147483647) → ((-2147483648) ≤ j_64) → (j_64 ≤ 2147483647) → G Γ x 11 (QI Γ x (qctX9_repaid M one other what)) M 152 [(10, vI z_57), (9, vI i_38), (8, vI i_39), (7, vI j_63), (6, vI j_64), (5, vI z_35), (4, vI (M (45 + 11 + 2) (((one * 6) + other).toNat))), (0, aR Γ 0), (1, vI one), (2, vI other), (3, vI what)] [] := by
                    intro j_63 j_64 h_66 h_67 h_68 h_69
                    refine g_iload (n := 154) hx 2 (dq tX9_repaid 78 rfl) rfl rfl ?_
                    refine g_iload (n := 156) hx 5 (dq tX9_repaid 79 rfl) rfl rfl ?_
                    refine g_icmp_ne (n := 159) (t := 162) hx (dq tX9_repaid 80 rfl) (by decide) rfl ⟨by omega, by omega⟩ h_36 (fun c_70 => ?_) (fun c_70 => ?_)
                    · refine g_iload (n := 164) hx 2 (dq tX9_repaid 82 rfl) rfl rfl ?_
                      refine g_iload (n := 166) hx 5 (dq tX9_repaid 83 rfl) rfl rfl ?_
                      refine g_isub (n := 167) hx (dq tX9_repaid 84 rfl) rfl ?_
                      refine g_iload (n := 169) hx 5 (dq tX9_repaid 85 rfl) rfl rfl ?_
                      refine g_iand (n := 170) hx (dq tX9_repaid 86 rfl) rfl (fun z_71 h_72 h_731 h_732 => ?_)
                      clear h_731 h_732
                      refine g_istore (n := 172) (lv' := [(8, vI z_71), (10, vI z_57), (9, vI i_38), (7, vI j_63), (6, vI j_64), (5, vI z_35), (4, vI (M (45 + 11 + 2) (((one * 6) + other).toNat))), (0, aR Γ 0), (1, vI one), (2, vI other), (3, vI what)]) hx (dq tX9_repaid 87 rfl) (by decide) rfl rfl ?_
                      refine g_iinc (n := 175) (lv' := [(9, vI (i_38 + 1)), (8, vI z_71), (10, vI z_57), (7, vI j_63), (6, vI j_64), (5, vI z_35), (4, vI (M (45 + 11 + 2) (((one * 6) + other).toNat))), (0, aR Γ 0), (1, vI one), (2, vI other), (3, vI what)]) hx 2 (dq tX9_repaid 88 rfl) rfl (by decide) rfl rfl ?_
                      refine g_goto (n := 85) hx (dq tX9_repaid 89 rfl) (by decide) ?_
                      refine g_lv [0, 1, 3, 4, 5, 6, 7, 8, 9, 10] rfl ?_
                      exact ih_43 _ (by omega) (i_38 + 1) z_71 j_63 j_64 (by omega) (by omega) (by omega) (by omega) (by omega) (by omega) (by omega) (by omega) rfl
                    · refine g_goto (n := 178) hx (dq tX9_repaid 81 rfl) (by decide) ?_
                      refine g_iload (n := 180) hx 4 (dq tX9_repaid 90 rfl) rfl rfl ?_
                      refine g_iconst (n := 181) hx (dq tX9_repaid 91 rfl) rfl ?_
                      refine g_icmp_ne (n := 184) (t := 187) hx (dq tX9_repaid 92 rfl) (by decide) rfl ⟨by omega, by omega⟩ ⟨by decide, by decide⟩ (fun c_74 => ?_) (fun c_74 => ?_)
                      · refine g_iload_n (n := 188) hx 10 (dq tX9_repaid 95 rfl) rfl rfl ?_
                        refine g_if_ne (n := 191) (t := 196) hx (dq tX9_repaid 96 rfl) (by decide) rfl (zrI hwhatl hwhatu (by decide) (by decide)) (fun c_75 => ?_) (fun c_75 => ?_)
                        · refine g_iload (n := 198) hx 4 (dq tX9_repaid 99 rfl) rfl rfl ?_
                          exact g_iret hx hr (dq tX9_repaid 100 rfl) ⟨by omega, by omega⟩ rfl
                        · refine g_iload (n := 193) hx 3 (dq tX9_repaid 97 rfl) rfl rfl ?_
                          refine g_goto (n := 198) hx (dq tX9_repaid 98 rfl) (by decide) ?_
                          exact g_iret hx hr (dq tX9_repaid 100 rfl) ⟨by omega, by omega⟩ rfl
                      · refine g_bipush (n := 186) hx (dq tX9_repaid 93 rfl) rfl (by decide) ?_
                        exact g_iret hx hr (dq tX9_repaid 94 rfl) ⟨by decide, by decide⟩ rfl
                  refine g_icmp_lt (n := 111) (t := 152) hx (dq tX9_repaid 59 rfl) (by decide) rfl h_59 (zrI h_24l h_24u (by decide) (by decide)) (fun c_62 => ?_) (fun c_62 => ?_)
                  · exact J_65 i_40 i_41 (by omega) (by omega) (by omega) (by omega)
                  · refine g_iload (n := 113) hx 4 (dq tX9_repaid 60 rfl) rfl rfl ?_
                    refine g_iconst (n := 114) hx (dq tX9_repaid 61 rfl) rfl ?_
                    refine g_icmp_eq (n := 117) (t := 144) hx (dq tX9_repaid 62 rfl) (by decide) rfl ⟨by omega, by omega⟩ ⟨by decide, by decide⟩ (fun c_76 => ?_) (fun c_76 => ?_)
                    · refine g_iload (n := 146) hx 2 (dq tX9_repaid 74 rfl) rfl rfl ?_
                      refine g_istore (n := 148) (lv' := [(6, vI i_39), (10, vI z_57), (9, vI i_38), (8, vI i_39), (7, vI i_40), (5, vI z_35), (4, vI (M (45 + 11 + 2) (((one * 6) + other).toNat))), (0, aR Γ 0), (1, vI one), (2, vI other), (3, vI what)]) hx (dq tX9_repaid 75 rfl) (by decide) rfl rfl ?_
                      refine g_iload (n := 150) hx 1 (dq tX9_repaid 76 rfl) rfl rfl ?_
                      refine g_istore (n := 152) (lv' := [(7, vI z_57), (6, vI i_39), (10, vI z_57), (9, vI i_38), (8, vI i_39), (5, vI z_35), (4, vI (M (45 + 11 + 2) (((one * 6) + other).toNat))), (0, aR Γ 0), (1, vI one), (2, vI other), (3, vI what)]) hx (dq tX9_repaid 77 rfl) (by decide) rfl rfl ?_
                      refine g_lv [2, 3, 4, 0, 1, 5, 6, 7, 8, 9, 10] rfl ?_
                      exact J_65 z_57 i_39 (by omega) (by omega) (by omega) (by omega)
                    · refine g_iload (n := 119) hx 0 (dq tX9_repaid 63 rfl) rfl rfl ?_
                      refine g_iload (n := 121) hx 3 (dq tX9_repaid 64 rfl) rfl rfl ?_
                      refine g_icmp_lt (n := 124) (t := 144) hx (dq tX9_repaid 65 rfl) (by decide) rfl h_59 ⟨by omega, by omega⟩ (fun c_77 => ?_) (fun c_77 => ?_)
                      · refine g_iload (n := 146) hx 2 (dq tX9_repaid 74 rfl) rfl rfl ?_
                        refine g_istore (n := 148) (lv' := [(6, vI i_39), (10, vI z_57), (9, vI i_38), (8, vI i_39), (7, vI i_40), (5, vI z_35), (4, vI (M (45 + 11 + 2) (((one * 6) + other).toNat))), (0, aR Γ 0), (1, vI one), (2, vI other), (3, vI what)]) hx (dq tX9_repaid 75 rfl) (by decide) rfl rfl ?_
                        refine g_iload (n := 150) hx 1 (dq tX9_repaid 76 rfl) rfl rfl ?_
                        refine g_istore (n := 152) (lv' := [(7, vI z_57), (6, vI i_39), (10, vI z_57), (9, vI i_38), (8, vI i_39), (5, vI z_35), (4, vI (M (45 + 11 + 2) (((one * 6) + other).toNat))), (0, aR Γ 0), (1, vI one), (2, vI other), (3, vI what)]) hx (dq tX9_repaid 77 rfl) (by decide) rfl rfl ?_
                        refine g_lv [2, 3, 4, 0, 1, 5, 6, 7, 8, 9, 10] rfl ?_
                        exact J_65 z_57 i_39 (by omega) (by omega) (by omega) (by omega)
                      · refine g_iload (n := 126) hx 0 (dq tX9_repaid 66 rfl) rfl rfl ?_
                        refine g_iload (n := 128) hx 3 (dq tX9_repaid 67 rfl) rfl rfl ?_
                        refine g_icmp_ne (n := 131) (t := 152) hx (dq tX9_repaid 68 rfl) (by decide) rfl h_59 ⟨by omega, by omega⟩ (fun c_78 => ?_) (fun c_78 => ?_)
                        · exact J_65 i_40 i_41 (by omega) (by omega) (by omega) (by omega)
                        · refine g_iload (n := 133) hx 2 (dq tX9_repaid 69 rfl) rfl rfl ?_
                          refine g_callSi (n := 136) (As := [vI i_39]) (rest := []) hx (ctJ6_bitCount_0f7a4 Γ M i_39 (by omega) (by omega)) mlX9_269 (dq tX9_repaid 70 rfl) rfl (Nat.le_of_ble_eq_true rfl) (Nat.le_of_ble_eq_true rfl) (Nat.le_of_ble_eq_true rfl) rfl (fun z_79 M_80 h_81 p_82 => ?_)
                          obtain rfl := p_82
                          refine g_iload (n := 138) hx 4 (dq tX9_repaid 71 rfl) rfl rfl ?_
                          refine g_callSi (n := 141) (As := [vI i_41]) (rest := [vI z_79]) hx (ctJ6_bitCount_0f7a4 Γ M i_41 (by omega) (by omega)) mlX9_269 (dq tX9_repaid 72 rfl) rfl (Nat.le_of_ble_eq_true rfl) (Nat.le_of_ble_eq_true rfl) (Nat.le_of_ble_eq_true rfl) rfl (fun z_84 M_85 h_86 p_87 => ?_)
                          obtain rfl := p_87
                          refine g_icmp_ge (n := 144) (t := 152) hx (dq tX9_repaid 73 rfl) (by decide) rfl h_81 h_86 (fun c_89 => ?_) (fun c_89 => ?_)
                          · exact J_65 i_40 i_41 (by omega) (by omega) (by omega) (by omega)
                          · refine g_iload (n := 146) hx 2 (dq tX9_repaid 74 rfl) rfl rfl ?_
                            refine g_istore (n := 148) (lv' := [(6, vI i_39), (10, vI z_57), (9, vI i_38), (8, vI i_39), (7, vI i_40), (5, vI z_35), (4, vI (M (45 + 11 + 2) (((one * 6) + other).toNat))), (0, aR Γ 0), (1, vI one), (2, vI other), (3, vI what)]) hx (dq tX9_repaid 75 rfl) (by decide) rfl rfl ?_
                            refine g_iload (n := 150) hx 1 (dq tX9_repaid 76 rfl) rfl rfl ?_
                            refine g_istore (n := 152) (lv' := [(7, vI z_57), (6, vI i_39), (10, vI z_57), (9, vI i_38), (8, vI i_39), (5, vI z_35), (4, vI (M (45 + 11 + 2) (((one * 6) + other).toNat))), (0, aR Γ 0), (1, vI one), (2, vI other), (3, vI what)]) hx (dq tX9_repaid 77 rfl) (by decide) rfl rfl ?_
                            refine g_lv [2, 3, 4, 0, 1, 5, 6, 7, 8, 9, 10] rfl ?_
                            exact J_65 z_57 i_39 (by omega) (by omega) (by omega) (by omega)
            exact L_42 _ 0 0 0 (-1) (by omega) (by omega) (by omega) (by omega) (by omega) (by omega) (by omega) (by omega) rfl
          · refine g_iconst (n := 31) hx (dq tX9_repaid 16 rfl) rfl ?_
            exact g_iret hx hr (dq tX9_repaid 17 rfl) ⟨by decide, by decide⟩ rfl

abbrev qctX9_nextDrawn (M : zM) (v : Int) (z : Int) (M' : zM) : Prop := M = M'
set_option maxHeartbeats 4000000 in
set_option maxRecDepth 100000 in
theorem ctX9_nextDrawn (Γ : Gam) (M : zM) (v : Int) (hvl : (-2147483648) ≤ v) (hvu : v ≤ 2147483647)  : CtI Γ yX9_nextDrawn cX9_nextDrawn 1 (some .int) 0 0 [vI v] M (qctX9_nextDrawn M v) := by
  refine met_i (by decide) (Nat.le_of_ble_eq_true rfl) (fun x hx hr => ?_)
  show G Γ x 1 (QI Γ x (qctX9_nextDrawn M v)) M 0 [(0, vI v)] []
  refine g_iload_n (n := 1) hx 0 (dq tX9_nextDrawn 0 rfl) rfl rfl ?_
  refine g_i2l (n := 2) hx (dq tX9_nextDrawn 1 rfl) rfl (zrI hvl hvu (by decide) (by decide)) ?_
  refine g_ldc2 (n := 5) (z := 1103515245) hx wd_1087 (by decide) (dq tX9_nextDrawn 2 rfl) rfl ?_
  refine g_lmul (n := 6) hx (dq tX9_nextDrawn 3 rfl) rfl (fun w_1 => ?_)
  refine g_ldc2 (n := 9) (z := 12345) hx wd_1088 (by decide) (dq tX9_nextDrawn 4 rfl) rfl ?_
  refine g_ladd (n := 10) hx (dq tX9_nextDrawn 5 rfl) rfl (fun w_2 => ?_)
  refine g_ldc2 (n := 13) (z := 2147483647) hx wd_1089 (by decide) (dq tX9_nextDrawn 6 rfl) rfl ?_
  refine g_land (n := 14) hx (dq tX9_nextDrawn 7 rfl) rfl (fun w_3 => ?_)
  refine g_l2i (n := 15) hx (dq tX9_nextDrawn 8 rfl) rfl (fun z_4 h_5 => ?_)
  exact g_iret hx hr (dq tX9_nextDrawn 9 rfl) h_5 rfl

abbrev qctX9_drawn (M : zM) (m : Int) (n : Int) (p : Int) (what : Int) (z : Int) (M' : zM) : Prop := (∀ u_ v_, (u_ < 0 + 3 ∨ 0 + 7 ≤ u_) ∧ (u_ ≠ 45 ∨ v_ ≠ 8) ∧ (u_ < 45 + 3 ∨ 45 + 11 ≤ u_) ∧ (u_ ≠ 45 + 11 ∨ v_ ≠ 1) ∧ (u_ ≠ 45 + 11 ∨ v_ ≠ 4) ∧ (u_ ≠ 45 + 11 ∨ v_ ≠ 11) ∧ (u_ < 45 + 12 ∨ 45 + 28 ≤ u_) ∧ (u_ < 73 ∨ 73 + 28 ≤ u_) → M' u_ v_ = M u_ v_) ∧ Gd M' 37 (45 + 1)
set_option maxHeartbeats 4000000 in
set_option maxRecDepth 100000 in
theorem ctX9_drawn (Γ : Gam) (M : zM) (m : Int) (hml : (-2147483648) ≤ m) (hmu : m ≤ 2147483647) (n : Int) (hnl : (-2147483648) ≤ n) (hnu : n ≤ 2147483647) (p : Int) (hpl : (-2147483648) ≤ p) (hpu : p ≤ 2147483647) (what : Int) (hwhatl : (-2147483648) ≤ what) (hwhatu : what ≤ 2147483647) (gd0 : Gd M 37 (45 + 1)) : CtI Γ yX9_drawn cX9_drawn 11 (some .int) 6 151 [aR Γ 0, vI m, vI n, vI p, vI what] M (qctX9_drawn M m n p what) := by
  refine met_i (by decide) (Nat.le_of_ble_eq_true rfl) (fun x hx hr => ?_)
  show G Γ x 11 (QI Γ x (qctX9_drawn M m n p what)) M 0 [(0, aR Γ 0), (1, vI m), (2, vI n), (3, vI p), (4, vI what)] []
  refine g_aload_n (n := 1) hx 0 (dq tX9_drawn 0 rfl) rfl rfl ?_
  refine g_callVi (n := 4) (As := []) (rest := []) hx (ctX9_hasRiver Γ M ) mlX9_126 (obX9 (by decide)) (dq tX9_drawn 1 rfl) rfl (Nat.le_of_ble_eq_true rfl) (Nat.le_of_ble_eq_true rfl) (Nat.le_of_ble_eq_true rfl) rfl (fun z_1 M_2 h_3 p_4 => ?_)
  obtain ⟨rfl, b_6⟩ := p_4
  refine g_if_eq (n := 7) (t := 50) hx (dq tX9_drawn 2 rfl) (by decide) rfl h_3 (fun c_8 => ?_) (fun c_8 => ?_)
  · clear b_6
    refine g_iconst (n := 51) hx (dq tX9_drawn 25 rfl) rfl ?_
    exact g_iret hx hr (dq tX9_drawn 26 rfl) ⟨by decide, by decide⟩ ⟨(fun _ _ _ => rfl), gd0⟩
  · have b_6 := b_6.resolve_left c_8
    obtain ⟨-, h_7⟩ := b_6
    refine g_iload_n (n := 8) hx 1 (dq tX9_drawn 3 rfl) rfl rfl ?_
    refine g_iconst (n := 9) hx (dq tX9_drawn 4 rfl) rfl ?_
    refine g_icmp_lt (n := 12) (t := 50) hx (dq tX9_drawn 5 rfl) (by decide) rfl (zrI hml hmu (by decide) (by decide)) ⟨by decide, by decide⟩ (fun c_9 => ?_) (fun c_9 => ?_)
    · refine g_iconst (n := 51) hx (dq tX9_drawn 25 rfl) rfl ?_
      exact g_iret hx hr (dq tX9_drawn 26 rfl) ⟨by decide, by decide⟩ ⟨(fun _ _ _ => rfl), gd0⟩
    · refine g_iload_n (n := 13) hx 1 (dq tX9_drawn 6 rfl) rfl rfl ?_
      refine g_bipush (n := 15) hx (dq tX9_drawn 7 rfl) rfl (by decide) ?_
      refine g_icmp_gt (n := 18) (t := 50) hx (dq tX9_drawn 8 rfl) (by decide) rfl (zrI hml hmu (by decide) (by decide)) ⟨by decide, by decide⟩ (fun c_10 => ?_) (fun c_10 => ?_)
      · refine g_iconst (n := 51) hx (dq tX9_drawn 25 rfl) rfl ?_
        exact g_iret hx hr (dq tX9_drawn 26 rfl) ⟨by decide, by decide⟩ ⟨(fun _ _ _ => rfl), gd0⟩
      · refine g_iload_n (n := 19) hx 2 (dq tX9_drawn 9 rfl) rfl rfl ?_
        refine g_iconst (n := 20) hx (dq tX9_drawn 10 rfl) rfl ?_
        refine g_icmp_lt (n := 23) (t := 50) hx (dq tX9_drawn 11 rfl) (by decide) rfl (zrI hnl hnu (by decide) (by decide)) ⟨by decide, by decide⟩ (fun c_11 => ?_) (fun c_11 => ?_)
        · refine g_iconst (n := 51) hx (dq tX9_drawn 25 rfl) rfl ?_
          exact g_iret hx hr (dq tX9_drawn 26 rfl) ⟨by decide, by decide⟩ ⟨(fun _ _ _ => rfl), gd0⟩
        · refine g_iload_n (n := 24) hx 2 (dq tX9_drawn 12 rfl) rfl rfl ?_
          refine g_bipush (n := 26) hx (dq tX9_drawn 13 rfl) rfl (by decide) ?_
          refine g_icmp_gt (n := 29) (t := 50) hx (dq tX9_drawn 14 rfl) (by decide) rfl (zrI hnl hnu (by decide) (by decide)) ⟨by decide, by decide⟩ (fun c_12 => ?_) (fun c_12 => ?_)
          · refine g_iconst (n := 51) hx (dq tX9_drawn 25 rfl) rfl ?_
            exact g_iret hx hr (dq tX9_drawn 26 rfl) ⟨by decide, by decide⟩ ⟨(fun _ _ _ => rfl), gd0⟩
          · refine g_iload_n (n := 30) hx 3 (dq tX9_drawn 15 rfl) rfl rfl ?_
            refine g_if_lt (n := 33) (t := 50) hx (dq tX9_drawn 16 rfl) (by decide) rfl (zrI hpl hpu (by decide) (by decide)) (fun c_13 => ?_) (fun c_13 => ?_)
            · refine g_iconst (n := 51) hx (dq tX9_drawn 25 rfl) rfl ?_
              exact g_iret hx hr (dq tX9_drawn 26 rfl) ⟨by decide, by decide⟩ ⟨(fun _ _ _ => rfl), gd0⟩
            · refine g_iload_n (n := 34) hx 3 (dq tX9_drawn 17 rfl) rfl rfl ?_
              refine g_bipush (n := 36) hx (dq tX9_drawn 18 rfl) rfl (by decide) ?_
              refine g_icmp_gt (n := 39) (t := 50) hx (dq tX9_drawn 19 rfl) (by decide) rfl (zrI hpl hpu (by decide) (by decide)) ⟨by decide, by decide⟩ (fun c_14 => ?_) (fun c_14 => ?_)
              · refine g_iconst (n := 51) hx (dq tX9_drawn 25 rfl) rfl ?_
                exact g_iret hx hr (dq tX9_drawn 26 rfl) ⟨by decide, by decide⟩ ⟨(fun _ _ _ => rfl), gd0⟩
              · refine g_iload (n := 41) hx 4 (dq tX9_drawn 20 rfl) rfl rfl ?_
                refine g_if_lt (n := 44) (t := 50) hx (dq tX9_drawn 21 rfl) (by decide) rfl (zrI hwhatl hwhatu (by decide) (by decide)) (fun c_15 => ?_) (fun c_15 => ?_)
                · refine g_iconst (n := 51) hx (dq tX9_drawn 25 rfl) rfl ?_
                  exact g_iret hx hr (dq tX9_drawn 26 rfl) ⟨by decide, by decide⟩ ⟨(fun _ _ _ => rfl), gd0⟩
                · refine g_iload (n := 46) hx 4 (dq tX9_drawn 22 rfl) rfl rfl ?_
                  refine g_iconst (n := 47) hx (dq tX9_drawn 23 rfl) rfl ?_
                  refine g_icmp_le (n := 50) (t := 52) hx (dq tX9_drawn 24 rfl) (by decide) rfl (zrI hwhatl hwhatu (by decide) (by decide)) ⟨by decide, by decide⟩ (fun c_16 => ?_) (fun c_16 => ?_)
                  · refine g_aload_n (n := 53) hx 0 (dq tX9_drawn 27 rfl) rfl rfl ?_
                    refine g_getR (n := 56) hx glX9_47 (sX9_5 (by decide)) (dq tX9_drawn 28 rfl) rfl ?_
                    refine g_getR (n := 59) hx glX9_109 (sX8_2 (by decide)) (dq tX9_drawn 29 rfl) rfl ?_
                    refine g_getI (n := 62) hx glX9_387 (sX0_0 (iX8_2 (by decide))) (dq tX9_drawn 30 rfl) rfl (fun h_17l h_17u => ?_)
                    refine g_istore (n := 64) (lv' := [(5, vI (M (45 + 11) 0)), (0, aR Γ 0), (1, vI m), (2, vI n), (3, vI p), (4, vI what)]) hx (dq tX9_drawn 31 rfl) (by decide) rfl rfl ?_
                    refine g_iconst (n := 65) hx (dq tX9_drawn 32 rfl) rfl ?_
                    refine g_istore (n := 67) (lv' := [(6, vI 0), (5, vI (M (45 + 11) 0)), (0, aR Γ 0), (1, vI m), (2, vI n), (3, vI p), (4, vI what)]) hx (dq tX9_drawn 33 rfl) (by decide) rfl rfl ?_
                    refine g_iconst (n := 68) hx (dq tX9_drawn 34 rfl) rfl ?_
                    refine g_istore (n := 70) (lv' := [(7, vI 0), (6, vI 0), (5, vI (M (45 + 11) 0)), (0, aR Γ 0), (1, vI m), (2, vI n), (3, vI p), (4, vI what)]) hx (dq tX9_drawn 35 rfl) (by decide) rfl rfl ?_
                    refine g_iconst (n := 71) hx (dq tX9_drawn 36 rfl) rfl ?_
                    refine g_istore (n := 73) (lv' := [(8, vI 0), (7, vI 0), (6, vI 0), (5, vI (M (45 + 11) 0)), (0, aR Γ 0), (1, vI m), (2, vI n), (3, vI p), (4, vI what)]) hx (dq tX9_drawn 37 rfl) (by decide) rfl rfl ?_
                    refine g_iconst (n := 74) hx (dq tX9_drawn 38 rfl) rfl ?_
                    refine g_istore (n := 76) (lv' := [(9, vI 0), (8, vI 0), (7, vI 0), (6, vI 0), (5, vI (M (45 + 11) 0)), (0, aR Γ 0), (1, vI m), (2, vI n), (3, vI p), (4, vI what)]) hx (dq tX9_drawn 39 rfl) (by decide) rfl rfl ?_
                    have L_24 : ∀ (n_ : Nat) (i_18 : Int) (i_19 : Int) (i_20 : Int) (i_21 : Int) (i_22 : Int) (M_23 : zM), (0 ≤ i_18) → (i_18 ≤ 10) → ((-2147483648) ≤ i_19) → (i_19 ≤ 2147483647) → ((-2147483648) ≤ i_20) → (i_20 ≤ 2147483647) → ((-2147483648) ≤ i_21) → (i_21 ≤ 2147483647) → ((-2147483648) ≤ i_22) → (i_22 ≤ 2147483647) → (∀ u_ v_, (u_ < 73 + 1 ∨ 73 + 11 ≤ u_) ∧ (u_ ≠ 73 ∨ v_ ≠ 8) ∧ (u_ < 73 + 3 ∨ 73 + 11 ≤ u_) ∧ (u_ ≠ 73 + 11 ∨ v_ ≠ 1) ∧ (u_ < 73 + 12 ∨ 73 + 28 ≤ u_) → M_23 u_ v_ = M u_ v_) → (Gd M_23 37 (45 + 1)) → ((10 - i_18).toNat = n_) → G Γ x 11 (QI Γ x (qctX9_drawn M m n p what)) M_23 76 [(9, vI i_18), (8, vI i_19), (7, vI i_20), (6, vI i_21), (5, vI i_22), (0, aR Γ 0), (1, vI m), (2, vI n), (3, vI p), (4, vI what)] [] := by
                      intro n_
                      induction n_ using Nat.strongRecOn with
                      | _ n_ ih_25 =>
                        intro i_18 i_19 i_20 i_21 i_22 M_23 h_29 h_30 h_31 h_32 h_33 h_34 h_35 h_36 h_37 h_38 f_26 g_27 hm_28
                        refine g_iload (n := 78) hx 0 (dq tX9_drawn 40 rfl) rfl rfl ?_
                        refine g_iload_n (n := 79) hx 6 (dq tX9_drawn 41 rfl) rfl rfl ?_
                        refine g_icmp_ge (n := 82) (t := 195) hx (dq tX9_drawn 42 rfl) (by decide) rfl ⟨by omega, by omega⟩ (zrI hml hmu (by decide) (by decide)) (fun c_39 => ?_) (fun c_39 => ?_)
                        · refine g_iload (n := 197) hx 9 (dq tX9_drawn 98 rfl) rfl rfl ?_
                          refine g_if_ne (n := 200) (t := 205) hx (dq tX9_drawn 99 rfl) (by decide) rfl (zrI hwhatl hwhatu (by decide) (by decide)) (fun c_40 => ?_) (fun c_40 => ?_)
                          · refine g_iload (n := 207) hx 9 (dq tX9_drawn 102 rfl) rfl rfl ?_
                            refine g_iconst (n := 208) hx (dq tX9_drawn 103 rfl) rfl ?_
                            refine g_icmp_ne (n := 211) (t := 216) hx (dq tX9_drawn 104 rfl) (by decide) rfl (zrI hwhatl hwhatu (by decide) (by decide)) ⟨by decide, by decide⟩ (fun c_41 => ?_) (fun c_41 => ?_)
                            · refine g_iload (n := 218) hx 1 (dq tX9_drawn 107 rfl) rfl rfl ?_
                              exact g_iret hx hr (dq tX9_drawn 108 rfl) ⟨by omega, by omega⟩ ⟨(fun u_ v_ huv_ => (f_26 u_ v_ (by omega))), g_27⟩
                            · refine g_iload (n := 213) hx 2 (dq tX9_drawn 105 rfl) rfl rfl ?_
                              refine g_goto (n := 218) hx (dq tX9_drawn 106 rfl) (by decide) ?_
                              exact g_iret hx hr (dq tX9_drawn 108 rfl) ⟨by omega, by omega⟩ ⟨(fun u_ v_ huv_ => (f_26 u_ v_ (by omega))), g_27⟩
                          · refine g_iload (n := 202) hx 3 (dq tX9_drawn 100 rfl) rfl rfl ?_
                            refine g_goto (n := 218) hx (dq tX9_drawn 101 rfl) (by decide) ?_
                            exact g_iret hx hr (dq tX9_drawn 108 rfl) ⟨by omega, by omega⟩ ⟨(fun u_ v_ huv_ => (f_26 u_ v_ (by omega))), g_27⟩
                        · refine g_aload_n (n := 83) hx 5 (dq tX9_drawn 43 rfl) rfl rfl ?_
                          refine g_getR (n := 86) hx glX9_55 (sX9_6 (by decide)) (dq tX9_drawn 44 rfl) rfl ?_
                          refine g_aload_n (n := 87) hx 5 (dq tX9_drawn 45 rfl) rfl rfl ?_
                          refine g_getR (n := 90) hx glX9_47 (sX9_5 (by decide)) (dq tX9_drawn 46 rfl) rfl ?_
                          have e_42 : M_23 37 1 = M 37 1 := (f_26 37 1 (by omega))
                          have e_43 : M_23 37 3 = M 37 3 := (f_26 37 3 (by omega))
                          refine g_callVv (n := 93) (As := [aR Γ 45]) (rest := []) hx (ctX8_begin Γ M_23 73 (by decide) 45 (by decide) (by omega) g_27) mlX9_283 (obX8 (by decide)) (dq tX9_drawn 47 rfl) rfl (Nat.le_of_ble_eq_true rfl) (Nat.le_of_ble_eq_true rfl) (Nat.le_of_ble_eq_true rfl) rfl (fun M_45 p_47 => ?_)
                          obtain ⟨f_48, g_49, h_50⟩ := p_47
                          refine g_iconst (n := 94) hx (dq tX9_drawn 48 rfl) rfl ?_
                          refine g_istore (n := 96) (lv' := [(10, vI 0), (9, vI i_18), (8, vI i_19), (7, vI i_20), (6, vI i_21), (5, vI i_22), (0, aR Γ 0), (1, vI m), (2, vI n), (3, vI p), (4, vI what)]) hx (dq tX9_drawn 49 rfl) (by decide) rfl rfl ?_
                          have L_56 : ∀ (n_ : Nat) (i_52 : Int) (i_53 : Int) (i_54 : Int) (M_55 : zM), (0 ≤ i_52) → (i_52 ≤ 60) → ((-2147483648) ≤ i_53) → (i_53 ≤ 2147483647) → ((-2147483648) ≤ i_54) → (i_54 ≤ 2147483647) → (∀ u_ v_, (u_ ≠ 73 ∨ v_ ≠ 8) ∧ (u_ < 73 + 3 ∨ 73 + 11 ≤ u_) ∧ (u_ ≠ 73 + 11 ∨ v_ ≠ 1) ∧ (u_ < 73 + 12 ∨ 73 + 28 ≤ u_) ∧ (u_ ≠ 73 + 1 ∨ v_ ≠ 0) ∧ (u_ ≠ 73 + 1 ∨ v_ ≠ 1) → M_55 u_ v_ = M_45 u_ v_) → (Gd M_55 37 (45 + 1)) → (Gd M_55 37 (73 + 1)) → ((60 - i_52).toNat = n_) → G Γ x 11 (QI Γ x (qctX9_drawn M m n p what)) M_55 96 [(10, vI i_52), (9, vI i_18), (8, vI i_53), (7, vI i_20), (6, vI i_21), (5, vI i_54), (0, aR Γ 0), (1, vI m), (2, vI n), (3, vI p), (4, vI what)] [] := by
                            intro n_
                            induction n_ using Nat.strongRecOn with
                            | _ n_ ih_57 =>
                              intro i_52 i_53 i_54 M_55 h_62 h_63 h_64 h_65 h_66 h_67 f_58 g_59 g_60 hm_61
                              refine g_iload (n := 98) hx 0 (dq tX9_drawn 50 rfl) rfl rfl ?_
                              refine g_iload_n (n := 99) hx 8 (dq tX9_drawn 51 rfl) rfl rfl ?_
                              refine g_icmp_ge (n := 102) (t := 161) hx (dq tX9_drawn 52 rfl) (by decide) rfl ⟨by omega, by omega⟩ (zrI hnl hnu (by decide) (by decide)) (fun c_68 => ?_) (fun c_68 => ?_)
                              · refine g_iload (n := 163) hx 4 (dq tX9_drawn 80 rfl) rfl rfl ?_
                                refine g_aload_n (n := 164) hx 6 (dq tX9_drawn 81 rfl) rfl rfl ?_
                                refine g_getR (n := 167) hx glX9_55 (sX9_6 (by decide)) (dq tX9_drawn 82 rfl) rfl ?_
                                refine g_getR (n := 170) hx glX9_307 (sX8_3 (by decide)) (dq tX9_drawn 83 rfl) rfl ?_
                                refine g_iconst (n := 171) hx (dq tX9_drawn 84 rfl) rfl ?_
                                refine g_iald (n := 172) (q := 0) hx (aX8_3 (b := 73) (by decide)) (dq tX9_drawn 85 rfl) rfl (by decide) (by decide) (by decide) rfl (fun h_69l h_69u => ?_)
                                refine g_iadd (n := 173) hx (dq tX9_drawn 86 rfl) rfl ?_
                                refine g_any (fun z_70 h_71 => ?_)
                                refine g_istore (n := 175) (lv' := [(6, vI z_70), (10, vI i_52), (9, vI i_18), (8, vI i_53), (7, vI i_20), (5, vI i_54), (0, aR Γ 0), (1, vI m), (2, vI n), (3, vI p), (4, vI what)]) hx (dq tX9_drawn 87 rfl) (by decide) rfl rfl ?_
                                refine g_iload (n := 177) hx 4 (dq tX9_drawn 88 rfl) rfl rfl ?_
                                refine g_aload_n (n := 178) hx 6 (dq tX9_drawn 89 rfl) rfl rfl ?_
                                refine g_getR (n := 181) hx glX9_55 (sX9_6 (by decide)) (dq tX9_drawn 90 rfl) rfl ?_
                                refine g_getR (n := 184) hx glX9_307 (sX8_3 (by decide)) (dq tX9_drawn 91 rfl) rfl ?_
                                refine g_iconst (n := 185) hx (dq tX9_drawn 92 rfl) rfl ?_
                                refine g_iald (n := 186) (q := 2) hx (aX8_3 (b := 73) (by decide)) (dq tX9_drawn 93 rfl) rfl (by decide) (by decide) (by decide) rfl (fun h_72l h_72u => ?_)
                                refine g_iadd (n := 187) hx (dq tX9_drawn 94 rfl) rfl ?_
                                refine g_any (fun z_73 h_74 => ?_)
                                refine g_istore (n := 189) (lv' := [(7, vI z_73), (6, vI z_70), (10, vI i_52), (9, vI i_18), (8, vI i_53), (5, vI i_54), (0, aR Γ 0), (1, vI m), (2, vI n), (3, vI p), (4, vI what)]) hx (dq tX9_drawn 95 rfl) (by decide) rfl rfl ?_
                                refine g_iinc (n := 192) (lv' := [(9, vI (i_18 + 1)), (7, vI z_73), (6, vI z_70), (10, vI i_52), (8, vI i_53), (5, vI i_54), (0, aR Γ 0), (1, vI m), (2, vI n), (3, vI p), (4, vI what)]) hx 3 (dq tX9_drawn 96 rfl) rfl (by decide) rfl rfl ?_
                                refine g_goto (n := 76) hx (dq tX9_drawn 97 rfl) (by decide) ?_
                                refine g_lv [0, 4, 1, 2, 5, 6, 7, 8, 9, 10] rfl ?_
                                exact ih_25 _ (by omega) (i_18 + 1) i_53 z_73 z_70 i_54 M_55 (by omega) (by omega) (by omega) (by omega) (by omega) (by omega) (by omega) (by omega) (by omega) (by omega) (fun u_ v_ huv_ => (((f_58 u_ v_ (by omega)).trans (f_48 u_ v_ (by omega))).trans (f_26 u_ v_ (by omega)))) g_59 rfl
                              · refine g_iload (n := 104) hx 5 (dq tX9_drawn 53 rfl) rfl rfl ?_
                                have e_75 : M_55 37 1 = M_23 37 1 := ((f_58 37 1 (by omega))).trans (f_48 37 1 (by omega))
                                have e_76 : M_55 37 3 = M_23 37 3 := ((f_58 37 3 (by omega))).trans (f_48 37 3 (by omega))
                                refine g_callSi (n := 107) (As := [vI i_54]) (rest := []) hx (ctX9_nextDrawn Γ M_55 i_54 (by omega) (by omega)) mlX9_390 (dq tX9_drawn 54 rfl) rfl (Nat.le_of_ble_eq_true rfl) (Nat.le_of_ble_eq_true rfl) (Nat.le_of_ble_eq_true rfl) rfl (fun z_77 M_78 h_79 p_80 => ?_)
                                obtain rfl := p_80
                                refine g_istore (n := 109) (lv' := [(5, vI z_77), (10, vI i_52), (9, vI i_18), (8, vI i_53), (7, vI i_20), (6, vI i_21), (0, aR Γ 0), (1, vI m), (2, vI n), (3, vI p), (4, vI what)]) hx (dq tX9_drawn 55 rfl) (by decide) rfl rfl ?_
                                refine g_iload (n := 111) hx 0 (dq tX9_drawn 56 rfl) rfl rfl ?_
                                refine g_ldcw (n := 114) (z := 65536) hx wd_1090 (by decide) (dq tX9_drawn 57 rfl) rfl ?_
                                refine g_idiv (n := 115) hx (dq tX9_drawn 58 rfl) rfl h_79 ⟨by decide, by decide⟩ (by decide) (fun z_82 h_83 h_84 => ?_)
                                clear h_84
                                refine g_bipush (n := 117) hx (dq tX9_drawn 59 rfl) rfl (by decide) ?_
                                refine g_irem (n := 118) hx (dq tX9_drawn 60 rfl) rfl h_83 ⟨by decide, by decide⟩ (by decide) (fun z_85 h_86 h_87 => ?_)
                                obtain ⟨h_871, h_872, h_873, h_874⟩ := h_87 (by omega)
                                have h_875 : 0 ≤ z_82 → 0 ≤ z_85 := fun hh => (h_873 hh).1
                                clear h_87 h_873
                                refine g_iload_n (n := 119) hx 9 (dq tX9_drawn 61 rfl) rfl rfl ?_
                                refine g_icmp_ge (n := 122) (t := 148) hx (dq tX9_drawn 62 rfl) (by decide) rfl h_86 (zrI hpl hpu (by decide) (by decide)) (fun c_88 => ?_) (fun c_88 => ?_)
                                · refine g_aload_n (n := 149) hx 6 (dq tX9_drawn 75 rfl) rfl rfl ?_
                                  refine g_getR (n := 152) hx glX9_55 (sX9_6 (by decide)) (dq tX9_drawn 76 rfl) rfl ?_
                                  refine g_callVv (n := 155) (As := []) (rest := []) hx (ctX8_passDay Γ M_55 73 (by decide) g_60) mlX9_300 (obX8 (by decide)) (dq tX9_drawn 77 rfl) rfl (Nat.le_of_ble_eq_true rfl) (Nat.le_of_ble_eq_true rfl) (Nat.le_of_ble_eq_true rfl) rfl (fun M_90 p_92 => ?_)
                                  obtain ⟨f_93, g_94⟩ := p_92
                                  have g_95 : Gd M_90 37 (45 + 1) := Gd.frame g_59 (fun c j hcj => f_93 c j (by omega))
                                  refine g_iinc (n := 158) (lv' := [(10, vI (i_52 + 1)), (5, vI z_77), (9, vI i_18), (8, vI i_53), (7, vI i_20), (6, vI i_21), (0, aR Γ 0), (1, vI m), (2, vI n), (3, vI p), (4, vI what)]) hx 1 (dq tX9_drawn 78 rfl) rfl (by decide) rfl rfl ?_
                                  refine g_goto (n := 96) hx (dq tX9_drawn 79 rfl) (by decide) ?_
                                  refine g_lv [0, 2, 3, 4, 5, 1, 6, 7, 8, 9, 10] rfl ?_
                                  exact ih_57 _ (by omega) (i_52 + 1) i_53 z_77 M_90 (by omega) (by omega) (by omega) (by omega) (by omega) (by omega) (fun u_ v_ huv_ => ((f_93 u_ v_ (by omega)).trans (f_58 u_ v_ (by omega)))) g_95 g_94 rfl
                                · refine g_iload (n := 124) hx 0 (dq tX9_drawn 63 rfl) rfl rfl ?_
                                  refine g_callSi (n := 127) (As := [vI z_77]) (rest := []) hx (ctX9_nextDrawn Γ M_55 z_77 (by omega) (by omega)) mlX9_390 (dq tX9_drawn 64 rfl) rfl (Nat.le_of_ble_eq_true rfl) (Nat.le_of_ble_eq_true rfl) (Nat.le_of_ble_eq_true rfl) rfl (fun z_97 M_98 h_99 p_100 => ?_)
                                  obtain rfl := p_100
                                  refine g_istore (n := 129) (lv' := [(5, vI z_97), (10, vI i_52), (9, vI i_18), (8, vI i_53), (7, vI i_20), (6, vI i_21), (0, aR Γ 0), (1, vI m), (2, vI n), (3, vI p), (4, vI what)]) hx (dq tX9_drawn 65 rfl) (by decide) rfl rfl ?_
                                  refine g_aload_n (n := 130) hx 6 (dq tX9_drawn 66 rfl) rfl rfl ?_
                                  refine g_getR (n := 133) hx glX9_55 (sX9_6 (by decide)) (dq tX9_drawn 67 rfl) rfl ?_
                                  refine g_iload (n := 135) hx 0 (dq tX9_drawn 68 rfl) rfl rfl ?_
                                  refine g_ldcw (n := 138) (z := 65536) hx wd_1090 (by decide) (dq tX9_drawn 69 rfl) rfl ?_
                                  refine g_idiv (n := 139) hx (dq tX9_drawn 70 rfl) rfl h_99 ⟨by decide, by decide⟩ (by decide) (fun z_102 h_103 h_104 => ?_)
                                  clear h_104
                                  refine g_bipush (n := 141) hx (dq tX9_drawn 71 rfl) rfl (by decide) ?_
                                  refine g_irem (n := 142) hx (dq tX9_drawn 72 rfl) rfl h_103 ⟨by decide, by decide⟩ (by decide) (fun z_105 h_106 h_107 => ?_)
                                  obtain ⟨h_1071, h_1072, h_1073, h_1074⟩ := h_107 (by omega)
                                  have h_1075 : 0 ≤ z_102 → 0 ≤ z_105 := fun hh => (h_1073 hh).1
                                  clear h_107 h_1073
                                  refine g_callVv (n := 145) (As := [vI z_105]) (rest := []) hx (ctX8_rise Γ M_55 73 (by decide) z_105 (by omega) (by omega) g_60) mlX9_277 (obX8 (by decide)) (dq tX9_drawn 73 rfl) rfl (Nat.le_of_ble_eq_true rfl) (Nat.le_of_ble_eq_true rfl) (Nat.le_of_ble_eq_true rfl) rfl (fun M_109 p_111 => ?_)
                                  obtain ⟨f_112, g_113⟩ := p_111
                                  have g_114 : Gd M_109 37 (45 + 1) := Gd.frame g_59 (fun c j hcj => f_112 c j (by omega))
                                  refine g_iinc (n := 148) (lv' := [(8, vI (i_53 + 1)), (5, vI z_97), (10, vI i_52), (9, vI i_18), (7, vI i_20), (6, vI i_21), (0, aR Γ 0), (1, vI m), (2, vI n), (3, vI p), (4, vI what)]) hx 3 (dq tX9_drawn 74 rfl) rfl (by decide) rfl rfl ?_
                                  refine g_anyl (fun z_116 h_117 => ?_)
                                  refine g_aload_n (n := 149) hx 6 (dq tX9_drawn 75 rfl) rfl rfl ?_
                                  refine g_getR (n := 152) hx glX9_55 (sX9_6 (by decide)) (dq tX9_drawn 76 rfl) rfl ?_
                                  have e_118 : M_109 37 1 = M_55 37 1 := (f_112 37 1 (by omega))
                                  have e_119 : M_109 37 3 = M_55 37 3 := (f_112 37 3 (by omega))
                                  refine g_callVv (n := 155) (As := []) (rest := []) hx (ctX8_passDay Γ M_109 73 (by decide) g_113) mlX9_300 (obX8 (by decide)) (dq tX9_drawn 77 rfl) rfl (Nat.le_of_ble_eq_true rfl) (Nat.le_of_ble_eq_true rfl) (Nat.le_of_ble_eq_true rfl) rfl (fun M_121 p_123 => ?_)
                                  obtain ⟨f_124, g_125⟩ := p_123
                                  have g_126 : Gd M_121 37 (45 + 1) := Gd.frame g_114 (fun c j hcj => f_124 c j (by omega))
                                  refine g_iinc (n := 158) (lv' := [(10, vI (i_52 + 1)), (8, vI z_116), (5, vI z_97), (9, vI i_18), (7, vI i_20), (6, vI i_21), (0, aR Γ 0), (1, vI m), (2, vI n), (3, vI p), (4, vI what)]) hx 2 (dq tX9_drawn 78 rfl) rfl (by decide) rfl rfl ?_
                                  refine g_goto (n := 96) hx (dq tX9_drawn 79 rfl) (by decide) ?_
                                  refine g_lv [0, 3, 1, 4, 5, 2, 6, 7, 8, 9, 10] rfl ?_
                                  exact ih_57 _ (by omega) (i_52 + 1) z_116 z_97 M_121 (by omega) (by omega) (by omega) (by omega) (by omega) (by omega) (fun u_ v_ huv_ => (((f_124 u_ v_ (by omega)).trans (f_112 u_ v_ (by omega))).trans (f_58 u_ v_ (by omega)))) g_126 g_125 rfl
                          exact L_56 _ 0 i_19 i_22 M_45 (by omega) (by omega) (by omega) (by omega) (by omega) (by omega) (fun _ _ _ => rfl) g_49 h_50 rfl
                    exact L_24 _ 0 0 0 0 (M (45 + 11) 0) M (by omega) (by omega) (by omega) (by omega) (by omega) (by omega) (by omega) (by omega) (by omega) (by omega) (fun _ _ _ => rfl) gd0 rfl
                  · refine g_iconst (n := 51) hx (dq tX9_drawn 25 rfl) rfl ?_
                    exact g_iret hx hr (dq tX9_drawn 26 rfl) ⟨by decide, by decide⟩ ⟨(fun _ _ _ => rfl), gd0⟩

abbrev qctX9_countKept (M : zM) (what : Int) (z : Int) (M' : zM) : Prop := M = M'
set_option maxHeartbeats 4000000 in
set_option maxRecDepth 100000 in
theorem ctX9_countKept (Γ : Gam) (M : zM) (what : Int) (hwhatl : (-2147483648) ≤ what) (hwhatu : what ≤ 2147483647) (gd0 : Gd M 37 (45 + 1)) : CtI Γ yX9_countKept cX9_countKept 2 (some .int) 1 22 [aR Γ 0, vI what] M (qctX9_countKept M what) := by
  refine met_i (by decide) (Nat.le_of_ble_eq_true rfl) (fun x hx hr => ?_)
  show G Γ x 2 (QI Γ x (qctX9_countKept M what)) M 0 [(0, aR Γ 0), (1, vI what)] []
  refine g_iload_n (n := 1) hx 1 (dq tX9_countKept 0 rfl) rfl rfl ?_
  by_cases c_1 : what = 12
  · refine g_swI (t := 48) hx (dq tX9_countKept 1 rfl) c_1 (by decide) (by decide) rfl (by decide) ?_
    refine g_aload_n (n := 49) hx 0 (dq tX9_countKept 2 rfl) rfl rfl ?_
    refine g_getR (n := 52) hx glX9_47 (sX9_5 (by decide)) (dq tX9_countKept 3 rfl) rfl ?_
    refine g_getR (n := 55) hx glX9_109 (sX8_2 (by decide)) (dq tX9_countKept 4 rfl) rfl ?_
    refine g_getI (n := 58) hx glX9_412 (sX0_1 (iX8_2 (by decide))) (dq tX9_countKept 5 rfl) rfl (fun h_2l h_2u => ?_)
    exact g_iret hx hr (dq tX9_countKept 6 rfl) (zrI h_2l h_2u (by decide) (by decide)) rfl
  by_cases c_3 : what = 13
  · refine g_swI (t := 59) hx (dq tX9_countKept 1 rfl) c_3 (by decide) (by decide) rfl (by decide) ?_
    refine g_aload_n (n := 60) hx 0 (dq tX9_countKept 7 rfl) rfl rfl ?_
    refine g_getR (n := 63) hx glX9_47 (sX9_5 (by decide)) (dq tX9_countKept 8 rfl) rfl ?_
    refine g_getR (n := 66) hx glX9_109 (sX8_2 (by decide)) (dq tX9_countKept 9 rfl) rfl ?_
    refine g_getI (n := 69) hx glX9_287 (sX0_4 (iX8_2 (by decide))) (dq tX9_countKept 10 rfl) rfl (fun h_4l h_4u => ?_)
    exact g_iret hx hr (dq tX9_countKept 11 rfl) (zrI h_4l h_4u (by decide) (by decide)) rfl
  by_cases c_5 : what = 14
  · refine g_swI (t := 70) hx (dq tX9_countKept 1 rfl) c_5 (by decide) (by decide) rfl (by decide) ?_
    refine g_aload_n (n := 71) hx 0 (dq tX9_countKept 12 rfl) rfl rfl ?_
    refine g_getR (n := 74) hx glX9_47 (sX9_5 (by decide)) (dq tX9_countKept 13 rfl) rfl ?_
    refine g_getR (n := 77) hx glX9_109 (sX8_2 (by decide)) (dq tX9_countKept 14 rfl) rfl ?_
    refine g_getI (n := 80) hx glX9_355 (sX0_6 (iX8_2 (by decide))) (dq tX9_countKept 15 rfl) rfl (fun h_6l h_6u => ?_)
    exact g_iret hx hr (dq tX9_countKept 16 rfl) (zrI h_6l h_6u (by decide) (by decide)) rfl
  by_cases c_7 : what = 15
  · refine g_swI (t := 81) hx (dq tX9_countKept 1 rfl) c_7 (by decide) (by decide) rfl (by decide) ?_
    refine g_aload_n (n := 82) hx 0 (dq tX9_countKept 17 rfl) rfl rfl ?_
    refine g_getR (n := 85) hx glX9_47 (sX9_5 (by decide)) (dq tX9_countKept 18 rfl) rfl ?_
    refine g_getR (n := 88) hx glX9_109 (sX8_2 (by decide)) (dq tX9_countKept 19 rfl) rfl ?_
    refine g_getI (n := 91) hx glX9_235 (sX0_11 (iX8_2 (by decide))) (dq tX9_countKept 20 rfl) rfl (fun h_8l h_8u => ?_)
    exact g_iret hx hr (dq tX9_countKept 21 rfl) (zrI h_8l h_8u (by decide) (by decide)) rfl
  by_cases c_9 : what = 16
  · refine g_swI (t := 92) hx (dq tX9_countKept 1 rfl) c_9 (by decide) (by decide) rfl (by decide) ?_
    refine g_aload_n (n := 93) hx 0 (dq tX9_countKept 22 rfl) rfl rfl ?_
    refine g_getR (n := 96) hx glX9_47 (sX9_5 (by decide)) (dq tX9_countKept 23 rfl) rfl ?_
    refine g_getR (n := 99) hx glX9_100 (sX8_1 (by decide)) (dq tX9_countKept 24 rfl) rfl ?_
    refine g_callVi (n := 102) (As := []) (rest := []) hx (ctX6_jamsInAll Γ M (45 + 1) (iX8_1 (by decide))) mlX9_415 (obX6 (iX8_1 (by decide))) (dq tX9_countKept 25 rfl) rfl (Nat.le_of_ble_eq_true rfl) (Nat.le_of_ble_eq_true rfl) (Nat.le_of_ble_eq_true rfl) rfl (fun z_10 M_11 h_12 p_13 => ?_)
    obtain rfl := p_13
    exact g_iret hx hr (dq tX9_countKept 26 rfl) h_12 rfl
  by_cases c_15 : what = 17
  · refine g_swI (t := 103) hx (dq tX9_countKept 1 rfl) c_15 (by decide) (by decide) rfl (by decide) ?_
    refine g_aload_n (n := 104) hx 0 (dq tX9_countKept 27 rfl) rfl rfl ?_
    refine g_getR (n := 107) hx glX9_47 (sX9_5 (by decide)) (dq tX9_countKept 28 rfl) rfl ?_
    refine g_getR (n := 110) hx glX9_109 (sX8_2 (by decide)) (dq tX9_countKept 29 rfl) rfl ?_
    refine g_getI (n := 113) hx glX9_387 (sX0_0 (iX8_2 (by decide))) (dq tX9_countKept 30 rfl) rfl (fun h_16l h_16u => ?_)
    exact g_iret hx hr (dq tX9_countKept 31 rfl) (zrI h_16l h_16u (by decide) (by decide)) rfl
  by_cases c_17 : what = 18
  · refine g_swI (t := 114) hx (dq tX9_countKept 1 rfl) c_17 (by decide) (by decide) rfl (by decide) ?_
    refine g_aload_n (n := 115) hx 0 (dq tX9_countKept 32 rfl) rfl rfl ?_
    refine g_getR (n := 118) hx glX9_10 (sX9_0 (by decide)) (dq tX9_countKept 33 rfl) rfl ?_
    refine g_getI (n := 121) hx glX9_78 (sX7_1 (by decide)) (dq tX9_countKept 34 rfl) rfl (fun h_18l h_18u => ?_)
    exact g_iret hx hr (dq tX9_countKept 35 rfl) (zrI h_18l h_18u (by decide) (by decide)) rfl
  by_cases c_19 : what = 19
  · refine g_swI (t := 122) hx (dq tX9_countKept 1 rfl) c_19 (by decide) (by decide) rfl (by decide) ?_
    refine g_aload_n (n := 123) hx 0 (dq tX9_countKept 36 rfl) rfl rfl ?_
    refine g_getR (n := 126) hx glX9_47 (sX9_5 (by decide)) (dq tX9_countKept 37 rfl) rfl ?_
    refine g_getR (n := 129) hx glX9_51 (sX8_0 (by decide)) (dq tX9_countKept 38 rfl) rfl ?_
    refine g_getI (n := 132) hx glX9_418 (sX2_4 (by decide)) (dq tX9_countKept 39 rfl) rfl (fun h_20l h_20u => ?_)
    exact g_iret hx hr (dq tX9_countKept 40 rfl) (zrI h_20l h_20u (by decide) (by decide)) rfl
  refine g_swO (t := 133) hx (dq tX9_countKept 1 rfl) (zrI hwhatl hwhatu (by decide) (by decide)) (by omega) (by decide) ?_
  refine g_iconst (n := 134) hx (dq tX9_countKept 41 rfl) rfl ?_
  exact g_iret hx hr (dq tX9_countKept 42 rfl) ⟨by decide, by decide⟩ rfl

abbrev qctX9_count (M : zM) (what : Int) (z : Int) (M' : zM) : Prop := M = M'
set_option maxHeartbeats 4000000 in
set_option maxRecDepth 100000 in
theorem ctX9_count (Γ : Gam) (M : zM) (what : Int) (hwhatl : (-2147483648) ≤ what) (hwhatu : what ≤ 2147483647) (gd0 : Gd M 37 (45 + 1)) : CtI Γ yX9_count cX9_count 2 (some .int) 2 43 [aR Γ 0, vI what] M (qctX9_count M what) := by
  refine met_i (by decide) (Nat.le_of_ble_eq_true rfl) (fun x hx hr => ?_)
  show G Γ x 2 (QI Γ x (qctX9_count M what)) M 0 [(0, aR Γ 0), (1, vI what)] []
  refine g_iload_n (n := 1) hx 1 (dq tX9_count 0 rfl) rfl rfl ?_
  by_cases c_1 : what = 0
  · refine g_swI (t := 64) hx (dq tX9_count 1 rfl) c_1 (by decide) (by decide) rfl (by decide) ?_
    refine g_aload_n (n := 65) hx 0 (dq tX9_count 2 rfl) rfl rfl ?_
    refine g_getR (n := 68) hx glX9_47 (sX9_5 (by decide)) (dq tX9_count 3 rfl) rfl ?_
    refine g_getR (n := 71) hx glX9_51 (sX8_0 (by decide)) (dq tX9_count 4 rfl) rfl ?_
    refine g_getI (n := 74) hx glX9_400 (sX2_0 (by decide)) (dq tX9_count 5 rfl) rfl (fun h_2l h_2u => ?_)
    exact g_iret hx hr (dq tX9_count 6 rfl) (zrI h_2l h_2u (by decide) (by decide)) rfl
  by_cases c_3 : what = 1
  · refine g_swI (t := 75) hx (dq tX9_count 1 rfl) c_3 (by decide) (by decide) rfl (by decide) ?_
    refine g_aload_n (n := 76) hx 0 (dq tX9_count 7 rfl) rfl rfl ?_
    refine g_getR (n := 79) hx glX9_47 (sX9_5 (by decide)) (dq tX9_count 8 rfl) rfl ?_
    refine g_getR (n := 82) hx glX9_51 (sX8_0 (by decide)) (dq tX9_count 9 rfl) rfl ?_
    refine g_getI (n := 85) hx glX9_378 (sX2_1 (by decide)) (dq tX9_count 10 rfl) rfl (fun h_4l h_4u => ?_)
    exact g_iret hx hr (dq tX9_count 11 rfl) (zrI h_4l h_4u (by decide) (by decide)) rfl
  by_cases c_5 : what = 2
  · refine g_swI (t := 86) hx (dq tX9_count 1 rfl) c_5 (by decide) (by decide) rfl (by decide) ?_
    refine g_aload_n (n := 87) hx 0 (dq tX9_count 12 rfl) rfl rfl ?_
    refine g_getR (n := 90) hx glX9_47 (sX9_5 (by decide)) (dq tX9_count 13 rfl) rfl ?_
    refine g_getR (n := 93) hx glX9_51 (sX8_0 (by decide)) (dq tX9_count 14 rfl) rfl ?_
    refine g_getI (n := 96) hx glX9_403 (sX2_2 (by decide)) (dq tX9_count 15 rfl) rfl (fun h_6l h_6u => ?_)
    exact g_iret hx hr (dq tX9_count 16 rfl) (zrI h_6l h_6u (by decide) (by decide)) rfl
  by_cases c_7 : what = 3
  · refine g_swI (t := 97) hx (dq tX9_count 1 rfl) c_7 (by decide) (by decide) rfl (by decide) ?_
    refine g_aload_n (n := 98) hx 0 (dq tX9_count 17 rfl) rfl rfl ?_
    refine g_getR (n := 101) hx glX9_47 (sX9_5 (by decide)) (dq tX9_count 18 rfl) rfl ?_
    refine g_getR (n := 104) hx glX9_51 (sX8_0 (by decide)) (dq tX9_count 19 rfl) rfl ?_
    refine g_getI (n := 107) hx glX9_117 (sX2_3 (by decide)) (dq tX9_count 20 rfl) rfl (fun h_8l h_8u => ?_)
    exact g_iret hx hr (dq tX9_count 21 rfl) (zrI h_8l h_8u (by decide) (by decide)) rfl
  by_cases c_9 : what = 4
  · refine g_swI (t := 108) hx (dq tX9_count 1 rfl) c_9 (by decide) (by decide) rfl (by decide) ?_
    refine g_aload_n (n := 109) hx 0 (dq tX9_count 22 rfl) rfl rfl ?_
    refine g_getI (n := 112) hx glX9_120 (sX9_4 (by decide)) (dq tX9_count 23 rfl) rfl (fun h_10l h_10u => ?_)
    exact g_iret hx hr (dq tX9_count 24 rfl) (zrI h_10l h_10u (by decide) (by decide)) rfl
  by_cases c_11 : what = 5
  · refine g_swI (t := 113) hx (dq tX9_count 1 rfl) c_11 (by decide) (by decide) rfl (by decide) ?_
    refine g_aload_n (n := 114) hx 0 (dq tX9_count 25 rfl) rfl rfl ?_
    refine g_getR (n := 117) hx glX9_47 (sX9_5 (by decide)) (dq tX9_count 26 rfl) rfl ?_
    refine g_getR (n := 120) hx glX9_100 (sX8_1 (by decide)) (dq tX9_count 27 rfl) rfl ?_
    refine g_getI (n := 123) hx glX9_133 (sX6_2 (iX8_1 (by decide))) (dq tX9_count 28 rfl) rfl (fun h_12l h_12u => ?_)
    exact g_iret hx hr (dq tX9_count 29 rfl) (zrI h_12l h_12u (by decide) (by decide)) rfl
  by_cases c_13 : what = 6
  · refine g_swI (t := 124) hx (dq tX9_count 1 rfl) c_13 (by decide) (by decide) rfl (by decide) ?_
    refine g_aload_n (n := 125) hx 0 (dq tX9_count 30 rfl) rfl rfl ?_
    refine g_getR (n := 128) hx glX9_47 (sX9_5 (by decide)) (dq tX9_count 31 rfl) rfl ?_
    refine g_getR (n := 131) hx glX9_100 (sX8_1 (by decide)) (dq tX9_count 32 rfl) rfl ?_
    refine g_getI (n := 134) hx glX9_148 (sX6_3 (iX8_1 (by decide))) (dq tX9_count 33 rfl) rfl (fun h_14l h_14u => ?_)
    exact g_iret hx hr (dq tX9_count 34 rfl) (zrI h_14l h_14u (by decide) (by decide)) rfl
  by_cases c_15 : what = 7
  · refine g_swI (t := 135) hx (dq tX9_count 1 rfl) c_15 (by decide) (by decide) rfl (by decide) ?_
    refine g_aload_n (n := 136) hx 0 (dq tX9_count 35 rfl) rfl rfl ?_
    refine g_getR (n := 139) hx glX9_47 (sX9_5 (by decide)) (dq tX9_count 36 rfl) rfl ?_
    refine g_getR (n := 142) hx glX9_100 (sX8_1 (by decide)) (dq tX9_count 37 rfl) rfl ?_
    refine g_getI (n := 145) hx glX9_297 (sX6_0 (iX8_1 (by decide))) (dq tX9_count 38 rfl) rfl (fun h_16l h_16u => ?_)
    exact g_iret hx hr (dq tX9_count 39 rfl) (zrI h_16l h_16u (by decide) (by decide)) rfl
  by_cases c_17 : what = 8
  · refine g_swI (t := 146) hx (dq tX9_count 1 rfl) c_17 (by decide) (by decide) rfl (by decide) ?_
    refine g_aload_n (n := 147) hx 0 (dq tX9_count 40 rfl) rfl rfl ?_
    refine g_getR (n := 150) hx glX9_47 (sX9_5 (by decide)) (dq tX9_count 41 rfl) rfl ?_
    refine g_getR (n := 153) hx glX9_100 (sX8_1 (by decide)) (dq tX9_count 42 rfl) rfl ?_
    refine g_getI (n := 156) hx glX9_280 (sX6_1 (iX8_1 (by decide))) (dq tX9_count 43 rfl) rfl (fun h_18l h_18u => ?_)
    exact g_iret hx hr (dq tX9_count 44 rfl) (zrI h_18l h_18u (by decide) (by decide)) rfl
  by_cases c_19 : what = 9
  · refine g_swI (t := 157) hx (dq tX9_count 1 rfl) c_19 (by decide) (by decide) rfl (by decide) ?_
    refine g_aload_n (n := 158) hx 0 (dq tX9_count 45 rfl) rfl rfl ?_
    refine g_getR (n := 161) hx glX9_47 (sX9_5 (by decide)) (dq tX9_count 46 rfl) rfl ?_
    refine g_getR (n := 164) hx glX9_100 (sX8_1 (by decide)) (dq tX9_count 47 rfl) rfl ?_
    refine g_iconst (n := 165) hx (dq tX9_count 48 rfl) rfl ?_
    refine g_bipush (n := 167) hx (dq tX9_count 49 rfl) rfl (by decide) ?_
    refine g_callVi (n := 170) (As := [vI 0, vI 20]) (rest := []) hx (ctX6_logsBetween Γ M (45 + 1) (iX8_1 (by decide)) 0 (by decide) (by decide) 20 (by decide) (by decide)) mlX9_406 (obX6 (iX8_1 (by decide))) (dq tX9_count 50 rfl) rfl (Nat.le_of_ble_eq_true rfl) (Nat.le_of_ble_eq_true rfl) (Nat.le_of_ble_eq_true rfl) rfl (fun z_20 M_21 h_22 p_23 => ?_)
    obtain rfl := p_23
    exact g_iret hx hr (dq tX9_count 51 rfl) h_22 rfl
  by_cases c_25 : what = 10
  · refine g_swI (t := 171) hx (dq tX9_count 1 rfl) c_25 (by decide) (by decide) rfl (by decide) ?_
    refine g_aload_n (n := 172) hx 0 (dq tX9_count 52 rfl) rfl rfl ?_
    refine g_getR (n := 175) hx glX9_47 (sX9_5 (by decide)) (dq tX9_count 53 rfl) rfl ?_
    refine g_getR (n := 178) hx glX9_100 (sX8_1 (by decide)) (dq tX9_count 54 rfl) rfl ?_
    refine g_bipush (n := 180) hx (dq tX9_count 55 rfl) rfl (by decide) ?_
    refine g_bipush (n := 182) hx (dq tX9_count 56 rfl) rfl (by decide) ?_
    refine g_callVi (n := 185) (As := [vI 40, vI 41]) (rest := []) hx (ctX6_logsBetween Γ M (45 + 1) (iX8_1 (by decide)) 40 (by decide) (by decide) 41 (by decide) (by decide)) mlX9_406 (obX6 (iX8_1 (by decide))) (dq tX9_count 57 rfl) rfl (Nat.le_of_ble_eq_true rfl) (Nat.le_of_ble_eq_true rfl) (Nat.le_of_ble_eq_true rfl) rfl (fun z_26 M_27 h_28 p_29 => ?_)
    obtain rfl := p_29
    exact g_iret hx hr (dq tX9_count 58 rfl) h_28 rfl
  by_cases c_31 : what = 11
  · refine g_swI (t := 186) hx (dq tX9_count 1 rfl) c_31 (by decide) (by decide) rfl (by decide) ?_
    refine g_aload_n (n := 187) hx 0 (dq tX9_count 59 rfl) rfl rfl ?_
    refine g_getR (n := 190) hx glX9_47 (sX9_5 (by decide)) (dq tX9_count 60 rfl) rfl ?_
    refine g_getR (n := 193) hx glX9_100 (sX8_1 (by decide)) (dq tX9_count 61 rfl) rfl ?_
    refine g_bipush (n := 195) hx (dq tX9_count 62 rfl) rfl (by decide) ?_
    refine g_bipush (n := 197) hx (dq tX9_count 63 rfl) rfl (by decide) ?_
    refine g_callVi (n := 200) (As := [vI 41, vI 42]) (rest := []) hx (ctX6_logsBetween Γ M (45 + 1) (iX8_1 (by decide)) 41 (by decide) (by decide) 42 (by decide) (by decide)) mlX9_406 (obX6 (iX8_1 (by decide))) (dq tX9_count 64 rfl) rfl (Nat.le_of_ble_eq_true rfl) (Nat.le_of_ble_eq_true rfl) (Nat.le_of_ble_eq_true rfl) rfl (fun z_32 M_33 h_34 p_35 => ?_)
    obtain rfl := p_35
    exact g_iret hx hr (dq tX9_count 65 rfl) h_34 rfl
  refine g_swO (t := 201) hx (dq tX9_count 1 rfl) (zrI hwhatl hwhatu (by decide) (by decide)) (by omega) (by decide) ?_
  refine g_aload_n (n := 202) hx 0 (dq tX9_count 66 rfl) rfl rfl ?_
  refine g_iload_n (n := 203) hx 1 (dq tX9_count 67 rfl) rfl rfl ?_
  refine g_callVi (n := 206) (As := [vI what]) (rest := []) hx (ctX9_countKept Γ M what (by omega) (by omega) gd0) mlX9_409 (obX9 (by decide)) (dq tX9_count 68 rfl) rfl (Nat.le_of_ble_eq_true rfl) (Nat.le_of_ble_eq_true rfl) (Nat.le_of_ble_eq_true rfl) rfl (fun z_37 M_38 h_39 p_40 => ?_)
  obtain rfl := p_40
  exact g_iret hx hr (dq tX9_count 69 rfl) h_39 rfl
