abbrev qctX10_bits2 (M : zM) (set : Int) (z : Int) (M' : zM) : Prop := M = M' ∧ 0 ≤ z ∧ z ≤ 12 ∧ (Bt set 12 z)
set_option maxHeartbeats 4000000 in
set_option maxRecDepth 100000 in
theorem ctX10_bits2 (Γ : Gam) (M : zM) (set : Int) (hsetl : (-2147483648) ≤ set) (hsetu : set ≤ 2147483647)  : CtI Γ yX10_bits cX10_bits 3 (some .int) 0 0 [vI set] M (qctX10_bits2 M set) := by
  refine met_i (by decide) (Nat.le_of_ble_eq_true rfl) (fun x hx hr => ?_)
  show G Γ x 3 (QI Γ x (qctX10_bits2 M set)) M 0 [(0, vI set)] []
  refine g_iconst (n := 1) hx (dq tX10_bits 0 rfl) rfl ?_
  refine g_istore_n (n := 2) (lv' := [(1, vI 0), (0, vI set)]) hx (dq tX10_bits 1 rfl) (by decide) rfl rfl ?_
  refine g_iconst (n := 3) hx (dq tX10_bits 2 rfl) rfl ?_
  refine g_istore_n (n := 4) (lv' := [(2, vI 0), (1, vI 0), (0, vI set)]) hx (dq tX10_bits 3 rfl) (by decide) rfl rfl ?_
  have L_3 : ∀ (n_ : Nat) (i_1 : Int) (i_2 : Int), (0 ≤ i_1) → (i_1 ≤ 12) → (0 ≤ i_2) → (i_2 ≤ 12) → (Bt set i_1 i_2) → (i_2 ≤ i_1) → ((12 - i_1).toNat = n_) → G Γ x 3 (QI Γ x (qctX10_bits2 M set)) M 4 [(2, vI i_1), (1, vI i_2), (0, vI set)] [] := by
    intro n_
    induction n_ using Nat.strongRecOn with
    | _ n_ ih_4 =>
      intro i_1 i_2 h_9 h_10 h_11 h_12 h_7 h_8 hm_6
      refine g_iload_n (n := 5) hx 0 (dq tX10_bits 4 rfl) rfl rfl ?_
      refine g_bipush (n := 7) hx (dq tX10_bits 5 rfl) rfl (by decide) ?_
      refine g_icmp_ge (n := 10) (t := 24) hx (dq tX10_bits 6 rfl) (by decide) rfl ⟨by omega, by omega⟩ ⟨by decide, by decide⟩ (fun c_13 => ?_) (fun c_13 => ?_)
      · refine g_iload_n (n := 25) hx 1 (dq tX10_bits 17 rfl) rfl rfl ?_
        exact g_iret hx hr (dq tX10_bits 18 rfl) ⟨by omega, by omega⟩ ⟨rfl, (by omega), (by omega), (fun v h0 h1 => h_7 v h0 (by omega))⟩
      · refine g_iload_n (n := 11) hx 1 (dq tX10_bits 7 rfl) rfl rfl ?_
        refine g_iload_n (n := 12) hx 2 (dq tX10_bits 8 rfl) rfl rfl ?_
        refine g_iload_n (n := 13) hx 0 (dq tX10_bits 9 rfl) rfl rfl ?_
        refine g_ishrE (n := 14) hx (dq tX10_bits 10 rfl) rfl (fun z_14 h_15 h_16e => ?_)
        refine g_iconst (n := 15) hx (dq tX10_bits 11 rfl) rfl ?_
        refine g_iandE (n := 16) hx (dq tX10_bits 12 rfl) rfl (fun z_17 h_18 h_19e h_191 h_192 => ?_)
        obtain ⟨h_193, h_194⟩ := h_191 (by omega) (by omega)
        clear h_191 h_192
        refine g_iadd (n := 17) hx (dq tX10_bits 13 rfl) rfl ?_
        refine g_istore_n (n := 18) (lv' := [(1, vI (i_2 + z_17)), (2, vI i_1), (0, vI set)]) hx (dq tX10_bits 14 rfl) (by decide) rfl rfl ?_
        refine g_iinc (n := 21) (lv' := [(2, vI (i_1 + 1)), (1, vI (i_2 + z_17)), (0, vI set)]) hx 1 (dq tX10_bits 15 rfl) rfl (by decide) rfl rfl ?_
        refine g_goto (n := 4) hx (dq tX10_bits 16 rfl) (by decide) ?_
        exact ih_4 _ (by omega) (i_1 + 1) (i_2 + z_17) (by omega) (by omega) (by omega) (by omega) (Bt.go h_7 (by omega) (by omega) h_16e h_19e rfl) (by omega) rfl
  exact L_3 _ 0 0 (by omega) (by omega) (by omega) (by omega) Bt.nil (by omega) rfl

abbrev qctX10_divisor (M : zM) (p : Int) (q : Int) (z : Int) (M' : zM) : Prop := M = M' ∧ 1 ≤ z ∧ z ≤ 2147483647
set_option maxHeartbeats 4000000 in
set_option maxRecDepth 100000 in
theorem ctX10_divisor (Γ : Gam) (M : zM) (p : Int) (hpl : 0 ≤ p) (hpu : p ≤ 2147483647) (q : Int) (hql : 1 ≤ q) (hqu : q ≤ 2147483647)  : CtI Γ yX10_divisor cX10_divisor 5 (some .int) 0 0 [vI p, vI q] M (qctX10_divisor M p q) := by
  refine met_i (by decide) (Nat.le_of_ble_eq_true rfl) (fun x hx hr => ?_)
  show G Γ x 5 (QI Γ x (qctX10_divisor M p q)) M 0 [(0, vI p), (1, vI q)] []
  refine g_iload_n (n := 1) hx 0 (dq tX10_divisor 0 rfl) rfl rfl ?_
  refine g_istore_n (n := 2) (lv' := [(2, vI p), (0, vI p), (1, vI q)]) hx (dq tX10_divisor 1 rfl) (by decide) rfl rfl ?_
  refine g_iload_n (n := 3) hx 2 (dq tX10_divisor 2 rfl) rfl rfl ?_
  refine g_istore_n (n := 4) (lv' := [(3, vI q), (2, vI p), (0, vI p), (1, vI q)]) hx (dq tX10_divisor 3 rfl) (by decide) rfl rfl ?_
  have L_3 : ∀ (n_ : Nat) (i_1 : Int) (i_2 : Int), (0 ≤ i_1) → (i_1 ≤ 2147483647) → (0 ≤ i_2) → (i_2 ≤ 2147483647) → (0 < i_2 + i_1) → (i_2.toNat = n_) → G Γ x 5 (QI Γ x (qctX10_divisor M p q)) M 4 [(3, vI i_1), (2, vI i_2), (0, vI p), (1, vI q)] [] := by
    intro n_
    induction n_ using Nat.strongRecOn with
    | _ n_ ih_4 =>
      intro i_1 i_2 h_8 h_9 h_10 h_11 h_7 hm_6
      refine g_iload_n (n := 5) hx 1 (dq tX10_divisor 4 rfl) rfl rfl ?_
      refine g_if_eq (n := 8) (t := 21) hx (dq tX10_divisor 5 rfl) (by decide) rfl ⟨by omega, by omega⟩ (fun c_12 => ?_) (fun c_12 => ?_)
      · refine g_iload_n (n := 22) hx 0 (dq tX10_divisor 15 rfl) rfl rfl ?_
        exact g_iret hx hr (dq tX10_divisor 16 rfl) ⟨by omega, by omega⟩ ⟨rfl, (by omega), (by omega)⟩
      · refine g_iload_n (n := 9) hx 0 (dq tX10_divisor 6 rfl) rfl rfl ?_
        refine g_iload_n (n := 10) hx 1 (dq tX10_divisor 7 rfl) rfl rfl ?_
        refine g_irem (n := 11) hx (dq tX10_divisor 8 rfl) rfl ⟨by omega, by omega⟩ ⟨by omega, by omega⟩ (by omega) (fun z_13 h_14 h_15 => ?_)
        obtain ⟨h_151, h_152, h_153, -⟩ := h_15 (by omega)
        obtain ⟨h_154, h_155, h_156⟩ := h_153 (by omega)
        clear h_15 h_153 h_156
        refine g_istore (n := 13) (lv' := [(4, vI z_13), (3, vI i_1), (2, vI i_2), (0, vI p), (1, vI q)]) hx (dq tX10_divisor 9 rfl) (by decide) rfl rfl ?_
        refine g_iload_n (n := 14) hx 2 (dq tX10_divisor 10 rfl) rfl rfl ?_
        refine g_istore_n (n := 15) (lv' := [(3, vI i_2), (4, vI z_13), (2, vI i_2), (0, vI p), (1, vI q)]) hx (dq tX10_divisor 11 rfl) (by decide) rfl rfl ?_
        refine g_iload (n := 17) hx 1 (dq tX10_divisor 12 rfl) rfl rfl ?_
        refine g_istore_n (n := 18) (lv' := [(2, vI z_13), (3, vI i_2), (4, vI z_13), (0, vI p), (1, vI q)]) hx (dq tX10_divisor 13 rfl) (by decide) rfl rfl ?_
        refine g_goto (n := 4) hx (dq tX10_divisor 14 rfl) (by decide) ?_
        refine g_lv [1, 0, 3, 4] rfl ?_
        exact ih_4 _ (by omega) i_2 z_13 (by omega) (by omega) (by omega) (by omega) (by first | assumption | omega) rfl
  exact L_3 _ q p (by omega) (by omega) (by omega) (by omega) (by first | assumption | omega) rfl

abbrev qctX10_likely (M : zM) (l : Int) (from_ : Int) (to_ : Int) (v : Int) (part : Int) (z : Int) (M' : zM) : Prop := M = M'
set_option maxHeartbeats 4000000 in
set_option maxRecDepth 100000 in
theorem ctX10_likely (Γ : Gam) (M : zM) (l : Int) (hll : (-2147483648) ≤ l) (hlu : l ≤ 2147483647) (from_ : Int) (hfrom_l : (-2147483648) ≤ from_) (hfrom_u : from_ ≤ 2147483647) (to_ : Int) (hto_l : (-2147483648) ≤ to_) (hto_u : to_ ≤ 2147483647) (v : Int) (hvl : (-2147483648) ≤ v) (hvu : v ≤ 2147483647) (part : Int) (hpartl : (-2147483648) ≤ part) (hpartu : part ≤ 2147483647)  : CtI Γ yX10_likely cX10_likely 10 (some .int) 2 46 [aR Γ 229, vI l, vI from_, vI to_, vI v, vI part] M (qctX10_likely M l from_ to_ v part) := by
  refine met_i (by decide) (Nat.le_of_ble_eq_true rfl) (fun x hx hr => ?_)
  show G Γ x 10 (QI Γ x (qctX10_likely M l from_ to_ v part)) M 0 [(0, aR Γ 229), (1, vI l), (2, vI from_), (3, vI to_), (4, vI v), (5, vI part)] []
  refine g_aload_n (n := 1) hx 0 (dq tX10_likely 0 rfl) rfl rfl ?_
  refine g_iload_n (n := 2) hx 1 (dq tX10_likely 1 rfl) rfl rfl ?_
  refine g_callVi (n := 5) (As := [vI l]) (rest := []) hx (ctX10_isLog Γ M l (by omega) (by omega)) mlX10_483 (obX10 (by decide)) (dq tX10_likely 2 rfl) rfl (Nat.le_of_ble_eq_true rfl) (Nat.le_of_ble_eq_true rfl) (Nat.le_of_ble_eq_true rfl) rfl (fun z_1 M_2 h_3 p_4 => ?_)
  obtain ⟨rfl, b_6⟩ := p_4
  refine g_if_eq (n := 8) (t := 51) hx (dq tX10_likely 3 rfl) (by decide) rfl h_3 (fun c_10 => ?_) (fun c_10 => ?_)
  · clear b_6
    refine g_iconst (n := 52) hx (dq tX10_likely 28 rfl) rfl ?_
    exact g_iret hx hr (dq tX10_likely 29 rfl) ⟨by decide, by decide⟩ rfl
  · have b_6 := b_6.resolve_left c_10
    obtain ⟨-, h_7, h_8, h_9⟩ := b_6
    refine g_iload_n (n := 9) hx 3 (dq tX10_likely 4 rfl) rfl rfl ?_
    refine g_iconst (n := 10) hx (dq tX10_likely 5 rfl) rfl ?_
    refine g_icmp_lt (n := 13) (t := 51) hx (dq tX10_likely 6 rfl) (by decide) rfl (zrI hto_l hto_u (by decide) (by decide)) ⟨by decide, by decide⟩ (fun c_11 => ?_) (fun c_11 => ?_)
    · refine g_iconst (n := 52) hx (dq tX10_likely 28 rfl) rfl ?_
      exact g_iret hx hr (dq tX10_likely 29 rfl) ⟨by decide, by decide⟩ rfl
    · refine g_iload_n (n := 14) hx 2 (dq tX10_likely 7 rfl) rfl rfl ?_
      refine g_i2l (n := 15) hx (dq tX10_likely 8 rfl) rfl (zrI hfrom_l hfrom_u (by decide) (by decide)) ?_
      refine g_iload_n (n := 16) hx 3 (dq tX10_likely 9 rfl) rfl rfl ?_
      refine g_i2l (n := 17) hx (dq tX10_likely 10 rfl) rfl (zrI hto_l hto_u (by decide) (by decide)) ?_
      refine g_aload_n (n := 18) hx 0 (dq tX10_likely 11 rfl) rfl rfl ?_
      refine g_getR (n := 21) hx glX10_9 (sX10_1 (by decide)) (dq tX10_likely 12 rfl) rfl ?_
      refine g_bipush (n := 23) hx (dq tX10_likely 13 rfl) rfl (by decide) ?_
      refine g_ialdX (n := 24) (q := 14) hx (aX10_1 (b := 229) (by decide)) (dq tX10_likely 14 rfl) rfl (by decide) (by decide) (by decide) rfl (fun h_12l h_12u => ?_)
      have h_12l : 0 ≤ M (229 + 1) 14 := h_12l
      have h_12u : M (229 + 1) 14 ≤ 30 := h_12u
      refine g_i2l (n := 25) hx (dq tX10_likely 15 rfl) rfl (zrI h_12l h_12u (by decide) (by decide)) ?_
      refine g_callSi (n := 28) (As := [vL from_, vL to_, vL (M (229 + 1) 14)]) (rest := []) hx (ctX10_in Γ M from_ (by omega) (by omega) to_ (by omega) (by omega) (M (229 + 1) 14) (by omega) (by omega)) mlX10_191 (dq tX10_likely 16 rfl) rfl (Nat.le_of_ble_eq_true rfl) (Nat.le_of_ble_eq_true rfl) (Nat.le_of_ble_eq_true rfl) rfl (fun z_13 M_14 h_15 p_16 => ?_)
      obtain ⟨rfl, b_18, h_19⟩ := p_16
      refine g_if_eq (n := 31) (t := 51) hx (dq tX10_likely 17 rfl) (by decide) rfl h_15 (fun c_22 => ?_) (fun c_22 => ?_)
      · clear b_18
        refine g_iconst (n := 52) hx (dq tX10_likely 28 rfl) rfl ?_
        exact g_iret hx hr (dq tX10_likely 29 rfl) ⟨by decide, by decide⟩ rfl
      · have b_18 := b_18.resolve_left c_22
        obtain ⟨-, h_20, h_21⟩ := b_18
        refine g_aload_n (n := 32) hx 0 (dq tX10_likely 18 rfl) rfl rfl ?_
        refine g_iload (n := 34) hx 4 (dq tX10_likely 19 rfl) rfl rfl ?_
        refine g_callVi (n := 37) (As := [vI v]) (rest := []) hx (ctX10_isVillage Γ M v (by omega) (by omega)) mlX10_419 (obX10 (by decide)) (dq tX10_likely 20 rfl) rfl (Nat.le_of_ble_eq_true rfl) (Nat.le_of_ble_eq_true rfl) (Nat.le_of_ble_eq_true rfl) rfl (fun z_23 M_24 h_25 p_26 => ?_)
        obtain ⟨rfl, b_28⟩ := p_26
        refine g_if_eq (n := 40) (t := 51) hx (dq tX10_likely 21 rfl) (by decide) rfl h_25 (fun c_32 => ?_) (fun c_32 => ?_)
        · clear b_28
          refine g_iconst (n := 52) hx (dq tX10_likely 28 rfl) rfl ?_
          exact g_iret hx hr (dq tX10_likely 29 rfl) ⟨by decide, by decide⟩ rfl
        · have b_28 := b_28.resolve_left c_32
          obtain ⟨-, h_29, h_30, h_31⟩ := b_28
          refine g_iload (n := 42) hx 5 (dq tX10_likely 22 rfl) rfl rfl ?_
          refine g_i2l (n := 43) hx (dq tX10_likely 23 rfl) rfl (zrI hpartl hpartu (by decide) (by decide)) ?_
          refine g_lconst (n := 44) (z := 0) hx (dq tX10_likely 24 rfl) rfl (by decide) ?_
          refine g_lconst (n := 45) (z := 1) hx (dq tX10_likely 25 rfl) rfl (by decide) ?_
          refine g_callSi (n := 48) (As := [vL part, vL 0, vL 1]) (rest := []) hx (ctX10_in Γ M part (by omega) (by omega) 0 (by omega) (by omega) 1 (by omega) (by omega)) mlX10_191 (dq tX10_likely 26 rfl) rfl (Nat.le_of_ble_eq_true rfl) (Nat.le_of_ble_eq_true rfl) (Nat.le_of_ble_eq_true rfl) rfl (fun z_33 M_34 h_35 p_36 => ?_)
          obtain ⟨rfl, b_38, h_39⟩ := p_36
          refine g_if_ne (n := 51) (t := 53) hx (dq tX10_likely 27 rfl) (by decide) rfl h_35 (fun c_42 => ?_) (fun c_42 => ?_)
          · have b_38 := b_38.resolve_left c_42
            obtain ⟨-, h_40, h_41⟩ := b_38
            refine g_iconst (n := 54) hx (dq tX10_likely 30 rfl) rfl ?_
            refine g_istore (n := 56) (lv' := [(6, vI 0), (0, aR Γ 229), (1, vI l), (2, vI from_), (3, vI to_), (4, vI v), (5, vI part)]) hx (dq tX10_likely 31 rfl) (by decide) rfl rfl ?_
            refine g_iconst (n := 57) hx (dq tX10_likely 32 rfl) rfl ?_
            refine g_istore (n := 59) (lv' := [(7, vI 0), (6, vI 0), (0, aR Γ 229), (1, vI l), (2, vI from_), (3, vI to_), (4, vI v), (5, vI part)]) hx (dq tX10_likely 33 rfl) (by decide) rfl rfl ?_
            refine g_iload_n (n := 60) hx 5 (dq tX10_likely 34 rfl) rfl rfl ?_
            refine g_istore (n := 62) (lv' := [(8, vI to_), (7, vI 0), (6, vI 0), (0, aR Γ 229), (1, vI l), (2, vI from_), (3, vI to_), (4, vI v), (5, vI part)]) hx (dq tX10_likely 35 rfl) (by decide) rfl rfl ?_
            have L_46 : ∀ (n_ : Nat) (i_43 : Int) (i_44 : Int) (i_45 : Int), (1 ≤ i_43) → (i_43 ≤ 31) → (0 ≤ i_44) → (i_44 ≤ 1800) → (0 ≤ i_45) → (i_45 ≤ 30) → (i_45 = i_43 - to_) → (i_44 ≤ 60 * i_45) → (i_43 ≤ from_ + 1) → ((31 - i_43).toNat = n_) → G Γ x 10 (QI Γ x (qctX10_likely M l from_ to_ v part)) M 62 [(8, vI i_43), (7, vI i_44), (6, vI i_45), (0, aR Γ 229), (1, vI l), (2, vI from_), (3, vI to_), (4, vI v), (5, vI part)] [] := by
              intro n_
              induction n_ using Nat.strongRecOn with
              | _ n_ ih_47 =>
                intro i_43 i_44 i_45 h_53 h_54 h_55 h_56 h_57 h_58 h_50 h_51 h_52 hm_49
                refine g_iload (n := 64) hx 0 (dq tX10_likely 36 rfl) rfl rfl ?_
                refine g_iload_n (n := 65) hx 5 (dq tX10_likely 37 rfl) rfl rfl ?_
                refine g_icmp_gt (n := 68) (t := 114) hx (dq tX10_likely 38 rfl) (by decide) rfl ⟨by omega, by omega⟩ (zrI hfrom_l hfrom_u (by decide) (by decide)) (fun c_59 => ?_) (fun c_59 => ?_)
                · refine g_bipush (n := 116) hx (dq tX10_likely 63 rfl) rfl (by decide) ?_
                  refine g_iload (n := 118) hx 2 (dq tX10_likely 64 rfl) rfl rfl ?_
                  refine g_imul (n := 119) hx (dq tX10_likely 65 rfl) rfl ?_
                  refine g_istore (n := 121) (lv' := [(8, vI (60 * i_45)), (7, vI i_44), (6, vI i_45), (0, aR Γ 229), (1, vI l), (2, vI from_), (3, vI to_), (4, vI v), (5, vI part)]) hx (dq tX10_likely 66 rfl) (by decide) rfl rfl ?_
                  refine g_iload (n := 123) hx 1 (dq tX10_likely 67 rfl) rfl rfl ?_
                  refine g_iload (n := 125) hx 0 (dq tX10_likely 68 rfl) rfl rfl ?_
                  refine g_callSi (n := 128) (As := [vI i_44, vI (60 * i_45)]) (rest := []) hx (ctX10_divisor Γ M i_44 (by omega) (by omega) (60 * i_45) (by omega) (by omega)) mlX10_616 (dq tX10_likely 69 rfl) rfl (Nat.le_of_ble_eq_true rfl) (Nat.le_of_ble_eq_true rfl) (Nat.le_of_ble_eq_true rfl) rfl (fun z_60 M_61 h_62 p_63 => ?_)
                  obtain ⟨rfl, h_65, h_66⟩ := p_63
                  refine g_istore (n := 130) (lv' := [(9, vI z_60), (8, vI (60 * i_45)), (7, vI i_44), (6, vI i_45), (0, aR Γ 229), (1, vI l), (2, vI from_), (3, vI to_), (4, vI v), (5, vI part)]) hx (dq tX10_likely 70 rfl) (by decide) rfl rfl ?_
                  refine g_iload (n := 132) hx 9 (dq tX10_likely 71 rfl) rfl rfl ?_
                  refine g_if_ne (n := 135) (t := 143) hx (dq tX10_likely 72 rfl) (by decide) rfl (zrI hpartl hpartu (by decide) (by decide)) (fun c_67 => ?_) (fun c_67 => ?_)
                  · refine g_iload (n := 145) hx 1 (dq tX10_likely 77 rfl) rfl rfl ?_
                    refine g_iload (n := 147) hx 0 (dq tX10_likely 78 rfl) rfl rfl ?_
                    refine g_idiv (n := 148) hx (dq tX10_likely 79 rfl) rfl ⟨by omega, by omega⟩ h_62 (by omega) (fun z_68 h_69 h_70 => ?_)
                    obtain ⟨h_706, h_704, h_705⟩ := h_70 (by omega) (by omega)
                    clear h_70 h_706
                    exact g_iret hx hr (dq tX10_likely 80 rfl) h_69 rfl
                  · refine g_iload (n := 137) hx 2 (dq tX10_likely 73 rfl) rfl rfl ?_
                    refine g_iload (n := 139) hx 0 (dq tX10_likely 74 rfl) rfl rfl ?_
                    refine g_idiv (n := 140) hx (dq tX10_likely 75 rfl) rfl ⟨by omega, by omega⟩ h_62 (by omega) (fun z_71 h_72 h_73 => ?_)
                    obtain ⟨h_736, h_734, h_735⟩ := h_73 (by omega) (by omega)
                    clear h_73 h_736
                    refine g_goto (n := 148) hx (dq tX10_likely 76 rfl) (by decide) ?_
                    exact g_iret hx hr (dq tX10_likely 80 rfl) h_72 rfl
                · refine g_aload_n (n := 69) hx 3 (dq tX10_likely 39 rfl) rfl rfl ?_
                  refine g_iload_n (n := 70) hx 4 (dq tX10_likely 40 rfl) rfl rfl ?_
                  refine g_iload (n := 72) hx 0 (dq tX10_likely 41 rfl) rfl rfl ?_
                  refine g_callVi (n := 75) (As := [vI l, vI i_43]) (rest := []) hx (ctX10_atAgo Γ M l (by omega) (by omega) i_43 (by omega) (by omega)) mlX10_609 (obX10 (by decide)) (dq tX10_likely 42 rfl) rfl (Nat.le_of_ble_eq_true rfl) (Nat.le_of_ble_eq_true rfl) (Nat.le_of_ble_eq_true rfl) rfl (fun z_74 M_75 h_76 p_77 => ?_)
                  obtain rfl := p_77
                  refine g_istore (n := 77) (lv' := [(9, vI z_74), (8, vI i_43), (7, vI i_44), (6, vI i_45), (0, aR Γ 229), (1, vI l), (2, vI from_), (3, vI to_), (4, vI v), (5, vI part)]) hx (dq tX10_likely 43 rfl) (by decide) rfl rfl ?_
                  refine g_iinc (n := 80) (lv' := [(6, vI (i_45 + 1)), (9, vI z_74), (8, vI i_43), (7, vI i_44), (0, aR Γ 229), (1, vI l), (2, vI from_), (3, vI to_), (4, vI v), (5, vI part)]) hx 3 (dq tX10_likely 44 rfl) rfl (by decide) rfl rfl ?_
                  refine g_iload (n := 82) hx 3 (dq tX10_likely 45 rfl) rfl rfl ?_
                  refine g_iload (n := 84) hx 1 (dq tX10_likely 46 rfl) rfl rfl ?_
                  refine g_iload (n := 86) hx 8 (dq tX10_likely 47 rfl) rfl rfl ?_
                  refine g_ishrE (n := 87) hx (dq tX10_likely 48 rfl) rfl (fun z_79 h_80 h_81e => ?_)
                  refine g_iconst (n := 88) hx (dq tX10_likely 49 rfl) rfl ?_
                  refine g_iandE (n := 89) hx (dq tX10_likely 50 rfl) rfl (fun z_82 h_83 h_84e h_841 h_842 => ?_)
                  obtain ⟨h_843, h_844⟩ := h_841 (by omega) (by omega)
                  clear h_841 h_842
                  refine g_iconst (n := 90) hx (dq tX10_likely 51 rfl) rfl ?_
                  refine g_icmp_ne (n := 93) (t := 104) hx (dq tX10_likely 52 rfl) (by decide) rfl h_83 ⟨by decide, by decide⟩ (fun c_85 => ?_) (fun c_85 => ?_)
                  · refine g_iconst (n := 105) hx (dq tX10_likely 58 rfl) rfl ?_
                    refine g_iadd (n := 106) hx (dq tX10_likely 59 rfl) rfl ?_
                    refine g_istore (n := 108) (lv' := [(7, vI (i_44 + 0)), (6, vI (i_45 + 1)), (9, vI z_74), (8, vI i_43), (0, aR Γ 229), (1, vI l), (2, vI from_), (3, vI to_), (4, vI v), (5, vI part)]) hx (dq tX10_likely 60 rfl) (by decide) rfl rfl ?_
                    refine g_iinc (n := 111) (lv' := [(8, vI (i_43 + 1)), (7, vI (i_44 + 0)), (6, vI (i_45 + 1)), (9, vI z_74), (0, aR Γ 229), (1, vI l), (2, vI from_), (3, vI to_), (4, vI v), (5, vI part)]) hx 3 (dq tX10_likely 61 rfl) rfl (by decide) rfl rfl ?_
                    refine g_goto (n := 62) hx (dq tX10_likely 62 rfl) (by decide) ?_
                    refine g_lv [0, 1, 2, 4, 5, 6, 7, 8, 9] rfl ?_
                    exact ih_47 _ (by omega) (i_43 + 1) (i_44 + 0) (i_45 + 1) (by omega) (by omega) (by omega) (by omega) (by omega) (by omega) (by first | assumption | omega) (by first | assumption | omega) (by first | assumption | omega) rfl
                  · refine g_bipush (n := 95) hx (dq tX10_likely 53 rfl) rfl (by decide) ?_
                    refine g_iload (n := 97) hx 1 (dq tX10_likely 54 rfl) rfl rfl ?_
                    refine g_callSi (n := 100) (As := [vI z_74]) (rest := [vI 60, vI i_44]) hx (ctX10_bits2 Γ M z_74 (by omega) (by omega)) mlX10_210 (dq tX10_likely 55 rfl) rfl (Nat.le_of_ble_eq_true rfl) (Nat.le_of_ble_eq_true rfl) (Nat.le_of_ble_eq_true rfl) rfl (fun z_86 M_87 h_88 p_89 => ?_)
                    obtain ⟨rfl, h_91, h_92, h_93⟩ := p_89
                    have h_94 : anI (shI z_74 v) 1 ≤ z_86 := h_93 v (by omega) (by omega)
                    rw [← h_81e, ← h_84e] at h_94
                    refine g_idiv (n := 101) hx (dq tX10_likely 56 rfl) rfl ⟨by decide, by decide⟩ h_88 (by omega) (fun z_95 h_96 h_97 => ?_)
                    obtain ⟨h_976, h_974, h_975⟩ := h_97 (by omega) (by omega)
                    clear h_97 h_976
                    refine g_goto (n := 105) hx (dq tX10_likely 57 rfl) (by decide) ?_
                    refine g_iadd (n := 106) hx (dq tX10_likely 59 rfl) rfl ?_
                    refine g_istore (n := 108) (lv' := [(7, vI (i_44 + z_95)), (6, vI (i_45 + 1)), (9, vI z_74), (8, vI i_43), (0, aR Γ 229), (1, vI l), (2, vI from_), (3, vI to_), (4, vI v), (5, vI part)]) hx (dq tX10_likely 60 rfl) (by decide) rfl rfl ?_
                    refine g_iinc (n := 111) (lv' := [(8, vI (i_43 + 1)), (7, vI (i_44 + z_95)), (6, vI (i_45 + 1)), (9, vI z_74), (0, aR Γ 229), (1, vI l), (2, vI from_), (3, vI to_), (4, vI v), (5, vI part)]) hx 3 (dq tX10_likely 61 rfl) rfl (by decide) rfl rfl ?_
                    refine g_goto (n := 62) hx (dq tX10_likely 62 rfl) (by decide) ?_
                    refine g_lv [0, 1, 2, 4, 5, 6, 7, 8, 9] rfl ?_
                    exact ih_47 _ (by omega) (i_43 + 1) (i_44 + z_95) (i_45 + 1) (by omega) (by omega) (by omega) (by omega) (by omega) (by omega) (by first | assumption | omega) (by first | assumption | omega) (by first | assumption | omega) rfl
            exact L_46 _ to_ 0 0 (by omega) (by omega) (by omega) (by omega) (by omega) (by omega) (by first | assumption | omega) (by first | assumption | omega) (by first | assumption | omega) rfl
          · clear b_38
            refine g_iconst (n := 52) hx (dq tX10_likely 28 rfl) rfl ?_
            exact g_iret hx hr (dq tX10_likely 29 rfl) ⟨by decide, by decide⟩ rfl
