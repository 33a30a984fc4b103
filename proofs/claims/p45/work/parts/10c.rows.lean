abbrev qctJ6_bitCount_0f7a4 (M : zM) (v : Int) (z : Int) (M' : zM) : Prop := M = M'
set_option maxHeartbeats 4000000 in
set_option maxRecDepth 100000 in
theorem ctJ6_bitCount_0f7a4 (Γ : Gam) (M : zM) (v : Int) (hvl : (-2147483648) ≤ v) (hvu : v ≤ 2147483647)  : CtI Γ yJ6_bitCount_0f7a4 cJ6_bitCount_0f7a4 1 (some .int) 0 0 [vI v] M (qctJ6_bitCount_0f7a4 M v) := by
  refine met_i (by decide) (Nat.le_of_ble_eq_true rfl) (fun x hx hr => ?_)
  show G Γ x 1 (QI Γ x (qctJ6_bitCount_0f7a4 M v)) M 0 [(0, vI v)] []
  refine g_iload_n (n := 1) hx 0 (dq tJ6_bitCount_0f7a4 0 rfl) rfl rfl ?_
  refine g_iload_n (n := 2) hx 0 (dq tJ6_bitCount_0f7a4 1 rfl) rfl rfl ?_
  refine g_iconst (n := 3) hx (dq tJ6_bitCount_0f7a4 2 rfl) rfl ?_
  refine g_iushr (n := 4) hx (dq tJ6_bitCount_0f7a4 3 rfl) rfl (fun z_1 h_2 => ?_)
  refine g_ldcw (n := 7) (z := 1431655765) hx wd_713 (by decide) (dq tJ6_bitCount_0f7a4 4 rfl) rfl ?_
  refine g_iand (n := 8) hx (dq tJ6_bitCount_0f7a4 5 rfl) rfl (fun z_4 h_5 h_61 h_62 => ?_)
  obtain ⟨h_63, h_64⟩ := h_61 (by omega) (by omega)
  clear h_61 h_62
  refine g_isub (n := 9) hx (dq tJ6_bitCount_0f7a4 6 rfl) rfl ?_
  refine g_any (fun z_7 h_8 => ?_)
  refine g_istore_n (n := 10) (lv' := [(0, vI z_7)]) hx (dq tJ6_bitCount_0f7a4 7 rfl) (by decide) rfl rfl ?_
  refine g_iload_n (n := 11) hx 0 (dq tJ6_bitCount_0f7a4 8 rfl) rfl rfl ?_
  refine g_ldcw (n := 14) (z := 858993459) hx wd_714 (by decide) (dq tJ6_bitCount_0f7a4 9 rfl) rfl ?_
  refine g_iand (n := 15) hx (dq tJ6_bitCount_0f7a4 10 rfl) rfl (fun z_9 h_10 h_111 h_112 => ?_)
  obtain ⟨h_113, h_114⟩ := h_111 (by omega) (by omega)
  clear h_111 h_112
  refine g_iload_n (n := 16) hx 0 (dq tJ6_bitCount_0f7a4 11 rfl) rfl rfl ?_
  refine g_iconst (n := 17) hx (dq tJ6_bitCount_0f7a4 12 rfl) rfl ?_
  refine g_iushr (n := 18) hx (dq tJ6_bitCount_0f7a4 13 rfl) rfl (fun z_12 h_13 => ?_)
  refine g_ldcw (n := 21) (z := 858993459) hx wd_714 (by decide) (dq tJ6_bitCount_0f7a4 14 rfl) rfl ?_
  refine g_iand (n := 22) hx (dq tJ6_bitCount_0f7a4 15 rfl) rfl (fun z_15 h_16 h_171 h_172 => ?_)
  obtain ⟨h_173, h_174⟩ := h_171 (by omega) (by omega)
  clear h_171 h_172
  refine g_iadd (n := 23) hx (dq tJ6_bitCount_0f7a4 16 rfl) rfl ?_
  refine g_istore_n (n := 24) (lv' := [(0, vI (z_9 + z_15))]) hx (dq tJ6_bitCount_0f7a4 17 rfl) (by decide) rfl rfl ?_
  refine g_iload_n (n := 25) hx 0 (dq tJ6_bitCount_0f7a4 18 rfl) rfl rfl ?_
  refine g_iload_n (n := 26) hx 0 (dq tJ6_bitCount_0f7a4 19 rfl) rfl rfl ?_
  refine g_iconst (n := 27) hx (dq tJ6_bitCount_0f7a4 20 rfl) rfl ?_
  refine g_iushr (n := 28) hx (dq tJ6_bitCount_0f7a4 21 rfl) rfl (fun z_18 h_19 => ?_)
  refine g_iadd (n := 29) hx (dq tJ6_bitCount_0f7a4 22 rfl) rfl ?_
  refine g_ldcw (n := 32) (z := 252645135) hx wd_715 (by decide) (dq tJ6_bitCount_0f7a4 23 rfl) rfl ?_
  refine g_iand (n := 33) hx (dq tJ6_bitCount_0f7a4 24 rfl) rfl (fun z_21 h_22 h_231 h_232 => ?_)
  obtain ⟨h_233, h_234⟩ := h_231 (by omega) (by omega)
  clear h_231 h_232
  refine g_istore_n (n := 34) (lv' := [(0, vI z_21)]) hx (dq tJ6_bitCount_0f7a4 25 rfl) (by decide) rfl rfl ?_
  refine g_iload_n (n := 35) hx 0 (dq tJ6_bitCount_0f7a4 26 rfl) rfl rfl ?_
  refine g_iload_n (n := 36) hx 0 (dq tJ6_bitCount_0f7a4 27 rfl) rfl rfl ?_
  refine g_bipush (n := 38) hx (dq tJ6_bitCount_0f7a4 28 rfl) rfl (by decide) ?_
  refine g_iushr (n := 39) hx (dq tJ6_bitCount_0f7a4 29 rfl) rfl (fun z_24 h_25 => ?_)
  refine g_iadd (n := 40) hx (dq tJ6_bitCount_0f7a4 30 rfl) rfl ?_
  refine g_any (fun z_27 h_28 => ?_)
  refine g_istore_n (n := 41) (lv' := [(0, vI z_27)]) hx (dq tJ6_bitCount_0f7a4 31 rfl) (by decide) rfl rfl ?_
  refine g_iload_n (n := 42) hx 0 (dq tJ6_bitCount_0f7a4 32 rfl) rfl rfl ?_
  refine g_iload_n (n := 43) hx 0 (dq tJ6_bitCount_0f7a4 33 rfl) rfl rfl ?_
  refine g_bipush (n := 45) hx (dq tJ6_bitCount_0f7a4 34 rfl) rfl (by decide) ?_
  refine g_iushr (n := 46) hx (dq tJ6_bitCount_0f7a4 35 rfl) rfl (fun z_29 h_30 => ?_)
  refine g_iadd (n := 47) hx (dq tJ6_bitCount_0f7a4 36 rfl) rfl ?_
  refine g_any (fun z_32 h_33 => ?_)
  refine g_istore_n (n := 48) (lv' := [(0, vI z_32)]) hx (dq tJ6_bitCount_0f7a4 37 rfl) (by decide) rfl rfl ?_
  refine g_iload_n (n := 49) hx 0 (dq tJ6_bitCount_0f7a4 38 rfl) rfl rfl ?_
  refine g_bipush (n := 51) hx (dq tJ6_bitCount_0f7a4 39 rfl) rfl (by decide) ?_
  refine g_iand (n := 52) hx (dq tJ6_bitCount_0f7a4 40 rfl) rfl (fun z_34 h_35 h_361 h_362 => ?_)
  obtain ⟨h_363, h_364⟩ := h_361 (by omega) (by omega)
  clear h_361 h_362
  exact g_iret hx hr (dq tJ6_bitCount_0f7a4 41 rfl) h_35 rfl

abbrev qctX6_isInWater (M : zM) (s : Nat) (log : Int) (z : Int) (M' : zM) : Prop := M = M' ∧ (z = 0 ∨ (z = 1 ∧ M (s + 3) log.toNat < 20))
set_option maxHeartbeats 4000000 in
set_option maxRecDepth 100000 in
theorem ctX6_isInWater (Γ : Gam) (M : zM) (s : Nat) (hs : isX6 s) (log : Int) (hlogl : 0 ≤ log) (hlogu : log ≤ 11)  : CtI Γ yX6_isInWater cX6_isInWater 2 (some .boolean) 0 0 [aR Γ s, vI log] M (qctX6_isInWater M s log) := by
  refine met_i (by decide) (Nat.le_of_ble_eq_true rfl) (fun x hx hr => ?_)
  show G Γ x 2 (QI Γ x (qctX6_isInWater M s log)) M 0 [(0, aR Γ s), (1, vI log)] []
  refine g_aload_n (n := 1) hx 0 (dq tX6_isInWater 0 rfl) rfl rfl ?_
  refine g_getR (n := 4) hx glX6_22 (sX6_8 hs) (dq tX6_isInWater 1 rfl) rfl ?_
  refine g_iload_n (n := 5) hx 1 (dq tX6_isInWater 2 rfl) rfl rfl ?_
  refine g_iald (n := 6) (q := log.toNat) hx (aX6_8 (b := s) hs) (dq tX6_isInWater 3 rfl) rfl (by omega) (by omega) (by omega) rfl (fun h_1l h_1u => ?_)
  refine g_bipush (n := 8) hx (dq tX6_isInWater 4 rfl) rfl (by decide) ?_
  refine g_icmp_ge (n := 11) (t := 15) hx (dq tX6_isInWater 5 rfl) (by decide) rfl (zrI h_1l h_1u (by decide) (by decide)) ⟨by decide, by decide⟩ (fun c_2 => ?_) (fun c_2 => ?_)
  · refine g_iconst (n := 16) hx (dq tX6_isInWater 8 rfl) rfl ?_
    exact g_zret hx hr (dq tX6_isInWater 9 rfl) (by omega) ⟨rfl, (by omega)⟩
  · refine g_iconst (n := 12) hx (dq tX6_isInWater 6 rfl) rfl ?_
    refine g_goto (n := 16) hx (dq tX6_isInWater 7 rfl) (by decide) ?_
    exact g_zret hx hr (dq tX6_isInWater 9 rfl) (by omega) ⟨rfl, (by omega)⟩

abbrev qctX6_isAshore (M : zM) (s : Nat) (log : Int) (z : Int) (M' : zM) : Prop := M = M' ∧ (z = 0 ∨ (z = 1 ∧ 20 ≤ M (s + 3) log.toNat ∧ M (s + 3) log.toNat < 40))
set_option maxHeartbeats 4000000 in
set_option maxRecDepth 100000 in
theorem ctX6_isAshore (Γ : Gam) (M : zM) (s : Nat) (hs : isX6 s) (log : Int) (hlogl : 0 ≤ log) (hlogu : log ≤ 11)  : CtI Γ yX6_isAshore cX6_isAshore 2 (some .boolean) 0 0 [aR Γ s, vI log] M (qctX6_isAshore M s log) := by
  refine met_i (by decide) (Nat.le_of_ble_eq_true rfl) (fun x hx hr => ?_)
  show G Γ x 2 (QI Γ x (qctX6_isAshore M s log)) M 0 [(0, aR Γ s), (1, vI log)] []
  refine g_aload_n (n := 1) hx 0 (dq tX6_isAshore 0 rfl) rfl rfl ?_
  refine g_getR (n := 4) hx glX6_22 (sX6_8 hs) (dq tX6_isAshore 1 rfl) rfl ?_
  refine g_iload_n (n := 5) hx 1 (dq tX6_isAshore 2 rfl) rfl rfl ?_
  refine g_iald (n := 6) (q := log.toNat) hx (aX6_8 (b := s) hs) (dq tX6_isAshore 3 rfl) rfl (by omega) (by omega) (by omega) rfl (fun h_1l h_1u => ?_)
  refine g_bipush (n := 8) hx (dq tX6_isAshore 4 rfl) rfl (by decide) ?_
  refine g_icmp_lt (n := 11) (t := 26) hx (dq tX6_isAshore 5 rfl) (by decide) rfl (zrI h_1l h_1u (by decide) (by decide)) ⟨by decide, by decide⟩ (fun c_2 => ?_) (fun c_2 => ?_)
  · refine g_iconst (n := 27) hx (dq tX6_isAshore 14 rfl) rfl ?_
    exact g_zret hx hr (dq tX6_isAshore 15 rfl) (by omega) ⟨rfl, (by omega)⟩
  · refine g_aload_n (n := 12) hx 0 (dq tX6_isAshore 6 rfl) rfl rfl ?_
    refine g_getR (n := 15) hx glX6_22 (sX6_8 hs) (dq tX6_isAshore 7 rfl) rfl ?_
    refine g_iload_n (n := 16) hx 1 (dq tX6_isAshore 8 rfl) rfl rfl ?_
    refine g_iald (n := 17) (q := log.toNat) hx (aX6_8 (b := s) hs) (dq tX6_isAshore 9 rfl) rfl (by omega) (by omega) (by omega) rfl (fun h_3l h_3u => ?_)
    refine g_bipush (n := 19) hx (dq tX6_isAshore 10 rfl) rfl (by decide) ?_
    refine g_icmp_ge (n := 22) (t := 26) hx (dq tX6_isAshore 11 rfl) (by decide) rfl (zrI h_3l h_3u (by decide) (by decide)) ⟨by decide, by decide⟩ (fun c_4 => ?_) (fun c_4 => ?_)
    · refine g_iconst (n := 27) hx (dq tX6_isAshore 14 rfl) rfl ?_
      exact g_zret hx hr (dq tX6_isAshore 15 rfl) (by omega) ⟨rfl, (by omega)⟩
    · refine g_iconst (n := 23) hx (dq tX6_isAshore 12 rfl) rfl ?_
      refine g_goto (n := 27) hx (dq tX6_isAshore 13 rfl) (by decide) ?_
      exact g_zret hx hr (dq tX6_isAshore 15 rfl) (by omega) ⟨rfl, (by omega)⟩

abbrev qctX6_isGone (M : zM) (s : Nat) (log : Int) (z : Int) (M' : zM) : Prop := M = M' ∧ (z = 0 ∨ (z = 1 ∧ 40 ≤ M (s + 3) log.toNat))
set_option maxHeartbeats 4000000 in
set_option maxRecDepth 100000 in
theorem ctX6_isGone (Γ : Gam) (M : zM) (s : Nat) (hs : isX6 s) (log : Int) (hlogl : 0 ≤ log) (hlogu : log ≤ 11)  : CtI Γ yX6_isGone cX6_isGone 2 (some .boolean) 0 0 [aR Γ s, vI log] M (qctX6_isGone M s log) := by
  refine met_i (by decide) (Nat.le_of_ble_eq_true rfl) (fun x hx hr => ?_)
  show G Γ x 2 (QI Γ x (qctX6_isGone M s log)) M 0 [(0, aR Γ s), (1, vI log)] []
  refine g_aload_n (n := 1) hx 0 (dq tX6_isGone 0 rfl) rfl rfl ?_
  refine g_getR (n := 4) hx glX6_22 (sX6_8 hs) (dq tX6_isGone 1 rfl) rfl ?_
  refine g_iload_n (n := 5) hx 1 (dq tX6_isGone 2 rfl) rfl rfl ?_
  refine g_iald (n := 6) (q := log.toNat) hx (aX6_8 (b := s) hs) (dq tX6_isGone 3 rfl) rfl (by omega) (by omega) (by omega) rfl (fun h_1l h_1u => ?_)
  refine g_bipush (n := 8) hx (dq tX6_isGone 4 rfl) rfl (by decide) ?_
  refine g_icmp_lt (n := 11) (t := 15) hx (dq tX6_isGone 5 rfl) (by decide) rfl (zrI h_1l h_1u (by decide) (by decide)) ⟨by decide, by decide⟩ (fun c_2 => ?_) (fun c_2 => ?_)
  · refine g_iconst (n := 16) hx (dq tX6_isGone 8 rfl) rfl ?_
    exact g_zret hx hr (dq tX6_isGone 9 rfl) (by omega) ⟨rfl, (by omega)⟩
  · refine g_iconst (n := 12) hx (dq tX6_isGone 6 rfl) rfl ?_
    refine g_goto (n := 16) hx (dq tX6_isGone 7 rfl) (by decide) ?_
    exact g_zret hx hr (dq tX6_isGone 9 rfl) (by omega) ⟨rfl, (by omega)⟩

abbrev qctX6_logsBetween (M : zM) (s : Nat) (from_ : Int) (to_ : Int) (z : Int) (M' : zM) : Prop := M = M'
set_option maxHeartbeats 4000000 in
set_option maxRecDepth 100000 in
theorem ctX6_logsBetween (Γ : Gam) (M : zM) (s : Nat) (hs : isX6 s) (from_ : Int) (hfrom_l : (-2147483648) ≤ from_) (hfrom_u : from_ ≤ 2147483647) (to_ : Int) (hto_l : (-2147483648) ≤ to_) (hto_u : to_ ≤ 2147483647)  : CtI Γ yX6_logsBetween cX6_logsBetween 5 (some .int) 0 0 [aR Γ s, vI from_, vI to_] M (qctX6_logsBetween M s from_ to_) := by
  refine met_i (by decide) (Nat.le_of_ble_eq_true rfl) (fun x hx hr => ?_)
  show G Γ x 5 (QI Γ x (qctX6_logsBetween M s from_ to_)) M 0 [(0, aR Γ s), (1, vI from_), (2, vI to_)] []
  refine g_iconst (n := 1) hx (dq tX6_logsBetween 0 rfl) rfl ?_
  refine g_istore_n (n := 2) (lv' := [(3, vI 0), (0, aR Γ s), (1, vI from_), (2, vI to_)]) hx (dq tX6_logsBetween 1 rfl) (by decide) rfl rfl ?_
  refine g_iconst (n := 3) hx (dq tX6_logsBetween 2 rfl) rfl ?_
  refine g_istore (n := 5) (lv' := [(4, vI 0), (3, vI 0), (0, aR Γ s), (1, vI from_), (2, vI to_)]) hx (dq tX6_logsBetween 3 rfl) (by decide) rfl rfl ?_
  have L_3 : ∀ (n_ : Nat) (i_1 : Int) (i_2 : Int), (0 ≤ i_1) → (i_1 ≤ 12) → ((-2147483648) ≤ i_2) → (i_2 ≤ 2147483647) → ((12 - i_1).toNat = n_) → G Γ x 5 (QI Γ x (qctX6_logsBetween M s from_ to_)) M 5 [(4, vI i_1), (3, vI i_2), (0, aR Γ s), (1, vI from_), (2, vI to_)] [] := by
    intro n_
    induction n_ using Nat.strongRecOn with
    | _ n_ ih_4 =>
      intro i_1 i_2 h_7 h_8 h_9 h_10 hm_6
      refine g_iload (n := 7) hx 0 (dq tX6_logsBetween 4 rfl) rfl rfl ?_
      refine g_aload_n (n := 8) hx 2 (dq tX6_logsBetween 5 rfl) rfl rfl ?_
      refine g_getI (n := 11) hx glX6_60 (sX6_5 hs) (dq tX6_logsBetween 6 rfl) rfl (fun h_11l h_11u => ?_)
      refine g_icmp_ge (n := 14) (t := 45) hx (dq tX6_logsBetween 7 rfl) (by decide) rfl ⟨by omega, by omega⟩ (zrI h_11l h_11u (by decide) (by decide)) (fun c_12 => ?_) (fun c_12 => ?_)
      · refine g_iload_n (n := 46) hx 1 (dq tX6_logsBetween 23 rfl) rfl rfl ?_
        exact g_iret hx hr (dq tX6_logsBetween 24 rfl) ⟨by omega, by omega⟩ rfl
      · refine g_aload_n (n := 15) hx 2 (dq tX6_logsBetween 8 rfl) rfl rfl ?_
        refine g_getR (n := 18) hx glX6_22 (sX6_8 hs) (dq tX6_logsBetween 9 rfl) rfl ?_
        refine g_iload (n := 20) hx 0 (dq tX6_logsBetween 10 rfl) rfl rfl ?_
        refine g_iald (n := 21) (q := i_1.toNat) hx (aX6_8 (b := s) hs) (dq tX6_logsBetween 11 rfl) rfl (by omega) (by omega) (by omega) rfl (fun h_13l h_13u => ?_)
        refine g_iload_n (n := 22) hx 3 (dq tX6_logsBetween 12 rfl) rfl rfl ?_
        refine g_icmp_lt (n := 25) (t := 39) hx (dq tX6_logsBetween 13 rfl) (by decide) rfl (zrI h_13l h_13u (by decide) (by decide)) (zrI hfrom_l hfrom_u (by decide) (by decide)) (fun c_14 => ?_) (fun c_14 => ?_)
        · refine g_iinc (n := 42) (lv' := [(4, vI (i_1 + 1)), (3, vI i_2), (0, aR Γ s), (1, vI from_), (2, vI to_)]) hx 0 (dq tX6_logsBetween 21 rfl) rfl (by decide) rfl rfl ?_
          refine g_goto (n := 5) hx (dq tX6_logsBetween 22 rfl) (by decide) ?_
          exact ih_4 _ (by omega) (i_1 + 1) i_2 (by omega) (by omega) (by omega) (by omega) rfl
        · refine g_aload_n (n := 26) hx 2 (dq tX6_logsBetween 14 rfl) rfl rfl ?_
          refine g_getR (n := 29) hx glX6_22 (sX6_8 hs) (dq tX6_logsBetween 15 rfl) rfl ?_
          refine g_iload (n := 31) hx 0 (dq tX6_logsBetween 16 rfl) rfl rfl ?_
          refine g_iald (n := 32) (q := i_1.toNat) hx (aX6_8 (b := s) hs) (dq tX6_logsBetween 17 rfl) rfl (by omega) (by omega) (by omega) rfl (fun h_15l h_15u => ?_)
          refine g_iload_n (n := 33) hx 4 (dq tX6_logsBetween 18 rfl) rfl rfl ?_
          refine g_icmp_ge (n := 36) (t := 39) hx (dq tX6_logsBetween 19 rfl) (by decide) rfl (zrI h_15l h_15u (by decide) (by decide)) (zrI hto_l hto_u (by decide) (by decide)) (fun c_16 => ?_) (fun c_16 => ?_)
          · refine g_iinc (n := 42) (lv' := [(4, vI (i_1 + 1)), (3, vI i_2), (0, aR Γ s), (1, vI from_), (2, vI to_)]) hx 0 (dq tX6_logsBetween 21 rfl) rfl (by decide) rfl rfl ?_
            refine g_goto (n := 5) hx (dq tX6_logsBetween 22 rfl) (by decide) ?_
            exact ih_4 _ (by omega) (i_1 + 1) i_2 (by omega) (by omega) (by omega) (by omega) rfl
          · refine g_iinc (n := 39) (lv' := [(3, vI (i_2 + 1)), (4, vI i_1), (0, aR Γ s), (1, vI from_), (2, vI to_)]) hx 1 (dq tX6_logsBetween 20 rfl) rfl (by decide) rfl rfl ?_
            refine g_anyl (fun z_17 h_18 => ?_)
            refine g_iinc (n := 42) (lv' := [(4, vI (i_1 + 1)), (3, vI z_17), (0, aR Γ s), (1, vI from_), (2, vI to_)]) hx 1 (dq tX6_logsBetween 21 rfl) rfl (by decide) rfl rfl ?_
            refine g_goto (n := 5) hx (dq tX6_logsBetween 22 rfl) (by decide) ?_
            exact ih_4 _ (by omega) (i_1 + 1) z_17 (by omega) (by omega) (by omega) (by omega) rfl
  exact L_3 _ 0 0 (by omega) (by omega) (by omega) (by omega) rfl

abbrev qctX6_jamsInAll (M : zM) (s : Nat) (z : Int) (M' : zM) : Prop := M = M'
set_option maxHeartbeats 4000000 in
set_option maxRecDepth 100000 in
theorem ctX6_jamsInAll (Γ : Gam) (M : zM) (s : Nat) (hs : isX6 s)  : CtI Γ yX6_jamsInAll cX6_jamsInAll 3 (some .int) 0 0 [aR Γ s] M (qctX6_jamsInAll M s) := by
  refine met_i (by decide) (Nat.le_of_ble_eq_true rfl) (fun x hx hr => ?_)
  show G Γ x 3 (QI Γ x (qctX6_jamsInAll M s)) M 0 [(0, aR Γ s)] []
  refine g_iconst (n := 1) hx (dq tX6_jamsInAll 0 rfl) rfl ?_
  refine g_istore_n (n := 2) (lv' := [(1, vI 0), (0, aR Γ s)]) hx (dq tX6_jamsInAll 1 rfl) (by decide) rfl rfl ?_
  refine g_iconst (n := 3) hx (dq tX6_jamsInAll 2 rfl) rfl ?_
  refine g_istore_n (n := 4) (lv' := [(2, vI 0), (1, vI 0), (0, aR Γ s)]) hx (dq tX6_jamsInAll 3 rfl) (by decide) rfl rfl ?_
  have L_3 : ∀ (n_ : Nat) (i_1 : Int) (i_2 : Int), (0 ≤ i_1) → (i_1 ≤ 12) → ((-2147483648) ≤ i_2) → (i_2 ≤ 2147483647) → ((12 - i_1).toNat = n_) → G Γ x 3 (QI Γ x (qctX6_jamsInAll M s)) M 4 [(2, vI i_1), (1, vI i_2), (0, aR Γ s)] [] := by
    intro n_
    induction n_ using Nat.strongRecOn with
    | _ n_ ih_4 =>
      intro i_1 i_2 h_7 h_8 h_9 h_10 hm_6
      refine g_iload_n (n := 5) hx 0 (dq tX6_jamsInAll 4 rfl) rfl rfl ?_
      refine g_aload_n (n := 6) hx 2 (dq tX6_jamsInAll 5 rfl) rfl rfl ?_
      refine g_getI (n := 9) hx glX6_60 (sX6_5 hs) (dq tX6_jamsInAll 6 rfl) rfl (fun h_11l h_11u => ?_)
      refine g_icmp_ge (n := 12) (t := 27) hx (dq tX6_jamsInAll 7 rfl) (by decide) rfl ⟨by omega, by omega⟩ (zrI h_11l h_11u (by decide) (by decide)) (fun c_12 => ?_) (fun c_12 => ?_)
      · refine g_iload_n (n := 28) hx 1 (dq tX6_jamsInAll 17 rfl) rfl rfl ?_
        exact g_iret hx hr (dq tX6_jamsInAll 18 rfl) ⟨by omega, by omega⟩ rfl
      · refine g_iload_n (n := 13) hx 1 (dq tX6_jamsInAll 8 rfl) rfl rfl ?_
        refine g_aload_n (n := 14) hx 2 (dq tX6_jamsInAll 9 rfl) rfl rfl ?_
        refine g_getR (n := 17) hx glX6_28 (sX6_10 hs) (dq tX6_jamsInAll 10 rfl) rfl ?_
        refine g_iload_n (n := 18) hx 0 (dq tX6_jamsInAll 11 rfl) rfl rfl ?_
        refine g_iald (n := 19) (q := i_1.toNat) hx (aX6_10 (b := s) hs) (dq tX6_jamsInAll 12 rfl) rfl (by omega) (by omega) (by omega) rfl (fun h_13l h_13u => ?_)
        refine g_iadd (n := 20) hx (dq tX6_jamsInAll 13 rfl) rfl ?_
        refine g_any (fun z_14 h_15 => ?_)
        refine g_istore_n (n := 21) (lv' := [(1, vI z_14), (2, vI i_1), (0, aR Γ s)]) hx (dq tX6_jamsInAll 14 rfl) (by decide) rfl rfl ?_
        refine g_iinc (n := 24) (lv' := [(2, vI (i_1 + 1)), (1, vI z_14), (0, aR Γ s)]) hx 1 (dq tX6_jamsInAll 15 rfl) rfl (by decide) rfl rfl ?_
        refine g_goto (n := 4) hx (dq tX6_jamsInAll 16 rfl) (by decide) ?_
        exact ih_4 _ (by omega) (i_1 + 1) z_14 (by omega) (by omega) (by omega) (by omega) rfl
  exact L_3 _ 0 0 (by omega) (by omega) (by omega) (by omega) rfl

abbrev qctX6_placeInOrder (M : zM) (s : Nat) (log : Int) (z : Int) (M' : zM) : Prop := M = M' ∧ 0 ≤ z ∧ z ≤ 11 ∧ (0 < M s 5 → z < M s 5)
set_option maxHeartbeats 4000000 in
set_option maxRecDepth 100000 in
theorem ctX6_placeInOrder (Γ : Gam) (M : zM) (s : Nat) (hs : isX6 s) (log : Int) (hlogl : (-2147483648) ≤ log) (hlogu : log ≤ 2147483647)  : CtI Γ yX6_placeInOrder cX6_placeInOrder 3 (some .int) 0 0 [aR Γ s, vI log] M (qctX6_placeInOrder M s log) := by
  refine met_i (by decide) (Nat.le_of_ble_eq_true rfl) (fun x hx hr => ?_)
  show G Γ x 3 (QI Γ x (qctX6_placeInOrder M s log)) M 0 [(0, aR Γ s), (1, vI log)] []
  refine g_iconst (n := 1) hx (dq tX6_placeInOrder 0 rfl) rfl ?_
  refine g_istore_n (n := 2) (lv' := [(2, vI 0), (0, aR Γ s), (1, vI log)]) hx (dq tX6_placeInOrder 1 rfl) (by decide) rfl rfl ?_
  have L_2 : ∀ (n_ : Nat) (i_1 : Int), (0 ≤ i_1) → (i_1 ≤ 11) → (0 < M s 5 → i_1 < M s 5) → ((11 - i_1).toNat = n_) → G Γ x 3 (QI Γ x (qctX6_placeInOrder M s log)) M 2 [(2, vI i_1), (0, aR Γ s), (1, vI log)] [] := by
    intro n_
    induction n_ using Nat.strongRecOn with
    | _ n_ ih_3 =>
      intro i_1 h_7 h_8 h_6 hm_5
      refine g_iload_n (n := 3) hx 0 (dq tX6_placeInOrder 2 rfl) rfl rfl ?_
      refine g_aload_n (n := 4) hx 1 (dq tX6_placeInOrder 3 rfl) rfl rfl ?_
      refine g_getI (n := 7) hx glX6_60 (sX6_5 hs) (dq tX6_placeInOrder 4 rfl) rfl (fun h_9l h_9u => ?_)
      refine g_iconst (n := 8) hx (dq tX6_placeInOrder 5 rfl) rfl ?_
      refine g_isub (n := 9) hx (dq tX6_placeInOrder 6 rfl) rfl ?_
      refine g_icmp_ge (n := 12) (t := 28) hx (dq tX6_placeInOrder 7 rfl) (by decide) rfl ⟨by omega, by omega⟩ ⟨by omega, by omega⟩ (fun c_10 => ?_) (fun c_10 => ?_)
      · refine g_iload_n (n := 29) hx 0 (dq tX6_placeInOrder 16 rfl) rfl rfl ?_
        exact g_iret hx hr (dq tX6_placeInOrder 17 rfl) ⟨by omega, by omega⟩ ⟨rfl, (by omega), (by omega), (by omega)⟩
      · refine g_aload_n (n := 13) hx 1 (dq tX6_placeInOrder 8 rfl) rfl rfl ?_
        refine g_getR (n := 16) hx glX6_34 (sX6_12 hs) (dq tX6_placeInOrder 9 rfl) rfl ?_
        refine g_iload_n (n := 17) hx 0 (dq tX6_placeInOrder 10 rfl) rfl rfl ?_
        refine g_iald (n := 18) (q := i_1.toNat) hx (aX6_12 (b := s) hs) (dq tX6_placeInOrder 11 rfl) rfl (by omega) (by omega) (by omega) rfl (fun h_11l h_11u => ?_)
        refine g_iload_n (n := 19) hx 2 (dq tX6_placeInOrder 12 rfl) rfl rfl ?_
        refine g_icmp_eq (n := 22) (t := 28) hx (dq tX6_placeInOrder 13 rfl) (by decide) rfl (zrI h_11l h_11u (by decide) (by decide)) (zrI hlogl hlogu (by decide) (by decide)) (fun c_12 => ?_) (fun c_12 => ?_)
        · refine g_iload_n (n := 29) hx 0 (dq tX6_placeInOrder 16 rfl) rfl rfl ?_
          exact g_iret hx hr (dq tX6_placeInOrder 17 rfl) ⟨by omega, by omega⟩ ⟨rfl, (by omega), (by omega), (by omega)⟩
        · refine g_iinc (n := 25) (lv' := [(2, vI (i_1 + 1)), (0, aR Γ s), (1, vI log)]) hx 0 (dq tX6_placeInOrder 14 rfl) rfl (by decide) rfl rfl ?_
          refine g_goto (n := 2) hx (dq tX6_placeInOrder 15 rfl) (by decide) ?_
          exact ih_3 _ (by omega) (i_1 + 1) (by omega) (by omega) (by first | assumption | omega) rfl
  exact L_2 _ 0 (by omega) (by omega) (by first | assumption | omega) rfl

abbrev qctX6_notchAt (M : zM) (s : Nat) (log : Int) (place : Int) (z : Int) (M' : zM) : Prop := M = M' ∧ (-1) ≤ z ∧ z ≤ 5 ∧ (z = -1 ∨ (0 ≤ place ∧ place ≤ 5))
set_option maxHeartbeats 4000000 in
set_option maxRecDepth 100000 in
theorem ctX6_notchAt (Γ : Gam) (M : zM) (s : Nat) (hs : isX6 s) (log : Int) (hlogl : 0 ≤ log) (hlogu : log ≤ 11) (place : Int) (hplacel : (-2147483648) ≤ place) (hplaceu : place ≤ 2147483647)  : CtI Γ yX6_notchAt cX6_notchAt 3 (some .int) 0 0 [aR Γ s, vI log, vI place] M (qctX6_notchAt M s log place) := by
  refine met_i (by decide) (Nat.le_of_ble_eq_true rfl) (fun x hx hr => ?_)
  show G Γ x 3 (QI Γ x (qctX6_notchAt M s log place)) M 0 [(0, aR Γ s), (1, vI log), (2, vI place)] []
  refine g_iload_n (n := 1) hx 2 (dq tX6_notchAt 0 rfl) rfl rfl ?_
  refine g_if_lt (n := 4) (t := 28) hx (dq tX6_notchAt 1 rfl) (by decide) rfl (zrI hplacel hplaceu (by decide) (by decide)) (fun c_1 => ?_) (fun c_1 => ?_)
  · refine g_iconst (n := 29) hx (dq tX6_notchAt 17 rfl) rfl ?_
    exact g_iret hx hr (dq tX6_notchAt 18 rfl) ⟨by decide, by decide⟩ ⟨rfl, (by omega), (by omega), (by omega)⟩
  · refine g_iload_n (n := 5) hx 2 (dq tX6_notchAt 2 rfl) rfl rfl ?_
    refine g_aload_n (n := 6) hx 0 (dq tX6_notchAt 3 rfl) rfl rfl ?_
    refine g_getR (n := 9) hx glX6_37 (sX6_13 hs) (dq tX6_notchAt 4 rfl) rfl ?_
    refine g_iload_n (n := 10) hx 1 (dq tX6_notchAt 5 rfl) rfl rfl ?_
    refine g_iald (n := 11) (q := log.toNat) hx (aX6_13 (b := s) hs) (dq tX6_notchAt 6 rfl) rfl (by omega) (by omega) (by omega) rfl (fun h_2l h_2u => ?_)
    refine g_icmp_ge (n := 14) (t := 28) hx (dq tX6_notchAt 7 rfl) (by decide) rfl (zrI hplacel hplaceu (by decide) (by decide)) (zrI h_2l h_2u (by decide) (by decide)) (fun c_3 => ?_) (fun c_3 => ?_)
    · refine g_iconst (n := 29) hx (dq tX6_notchAt 17 rfl) rfl ?_
      exact g_iret hx hr (dq tX6_notchAt 18 rfl) ⟨by decide, by decide⟩ ⟨rfl, (by omega), (by omega), (by omega)⟩
    · refine g_aload_n (n := 15) hx 0 (dq tX6_notchAt 8 rfl) rfl rfl ?_
      refine g_getR (n := 18) hx glX6_40 (sX6_14 hs) (dq tX6_notchAt 9 rfl) rfl ?_
      refine g_iload_n (n := 19) hx 1 (dq tX6_notchAt 10 rfl) rfl rfl ?_
      refine g_bipush (n := 21) hx (dq tX6_notchAt 11 rfl) rfl (by decide) ?_
      refine g_imul (n := 22) hx (dq tX6_notchAt 12 rfl) rfl ?_
      refine g_iload_n (n := 23) hx 2 (dq tX6_notchAt 13 rfl) rfl rfl ?_
      refine g_iadd (n := 24) hx (dq tX6_notchAt 14 rfl) rfl ?_
      refine g_iald (n := 25) (q := ((log * 6) + place).toNat) hx (aX6_14 (b := s) hs) (dq tX6_notchAt 15 rfl) rfl (by omega) (by omega) (by omega) rfl (fun h_4l h_4u => ?_)
      refine g_goto (n := 29) hx (dq tX6_notchAt 16 rfl) (by decide) ?_
      exact g_iret hx hr (dq tX6_notchAt 18 rfl) (zrI h_4l h_4u (by decide) (by decide)) ⟨rfl, (by omega), (by omega), (by omega)⟩

abbrev qctX6_notchBehind (M : zM) (s : Nat) (log : Int) (village : Int) (M' : zM) : Prop := (∀ u_ v_, u_ ≠ s + 8 ∧ u_ ≠ s + 9 → M' u_ v_ = M u_ v_)
set_option maxHeartbeats 4000000 in
set_option maxRecDepth 100000 in
theorem ctX6_notchBehind (Γ : Gam) (M : zM) (s : Nat) (hs : isX6 s) (log : Int) (hlogl : 0 ≤ log) (hlogu : log ≤ 11) (village : Int) (hvillagel : 0 ≤ village) (hvillageu : village ≤ 5)  : CtV Γ yX6_notchBehind cX6_notchBehind 4 none 1 14 [aR Γ s, vI log, vI village] M (qctX6_notchBehind M s log village) := by
  refine met_v (by decide) (Nat.le_of_ble_eq_true rfl) (fun x hx hr => ?_)
  show G Γ x 4 (QV Γ x (qctX6_notchBehind M s log village)) M 0 [(0, aR Γ s), (1, vI log), (2, vI village)] []
  refine g_aload_n (n := 1) hx 0 (dq tX6_notchBehind 0 rfl) rfl rfl ?_
  refine g_getR (n := 4) hx glX6_37 (sX6_13 hs) (dq tX6_notchBehind 1 rfl) rfl ?_
  refine g_iload_n (n := 5) hx 1 (dq tX6_notchBehind 2 rfl) rfl rfl ?_
  refine g_iald (n := 6) (q := log.toNat) hx (aX6_13 (b := s) hs) (dq tX6_notchBehind 3 rfl) rfl (by omega) (by omega) (by omega) rfl (fun h_1l h_1u => ?_)
  refine g_iconst (n := 7) hx (dq tX6_notchBehind 4 rfl) rfl ?_
  refine g_min (n := 10) hx wd_592 wd_577 wd_17 wd_578 (dq tX6_notchBehind 5 rfl) rfl (Nat.le_of_ble_eq_true rfl) (Nat.le_of_ble_eq_true rfl) (zrI h_1l h_1u (by decide) (by decide)) ⟨by decide, by decide⟩ (fun z_2 h_3 h_31 h_32 h_33 => ?_)
  refine g_istore_n (n := 11) (lv' := [(3, vI z_2), (0, aR Γ s), (1, vI log), (2, vI village)]) hx (dq tX6_notchBehind 6 rfl) (by decide) rfl rfl ?_
  refine g_aload_n (n := 12) hx 1 (dq tX6_notchBehind 7 rfl) rfl rfl ?_
  refine g_getR (n := 15) hx glX6_40 (sX6_14 hs) (dq tX6_notchBehind 8 rfl) rfl ?_
  refine g_iload_n (n := 16) hx 2 (dq tX6_notchBehind 9 rfl) rfl rfl ?_
  refine g_bipush (n := 18) hx (dq tX6_notchBehind 10 rfl) rfl (by decide) ?_
  refine g_imul (n := 19) hx (dq tX6_notchBehind 11 rfl) rfl ?_
  refine g_iload_n (n := 20) hx 0 (dq tX6_notchBehind 12 rfl) rfl rfl ?_
  refine g_iadd (n := 21) hx (dq tX6_notchBehind 13 rfl) rfl ?_
  refine g_iload_n (n := 22) hx 3 (dq tX6_notchBehind 14 rfl) rfl rfl ?_
  refine g_iast (n := 23) (q := ((log * 6) + z_2).toNat) hx (aX6_14 (b := s) hs) (dq tX6_notchBehind 15 rfl) rfl (by omega) (by omega) (by omega) rfl (by omega) (by omega) (fun M_4 m_5e m_5 => ?_)
  refine g_aload_n (n := 24) hx 1 (dq tX6_notchBehind 16 rfl) rfl rfl ?_
  refine g_getR (n := 27) hx glX6_37 (sX6_13 hs) (dq tX6_notchBehind 17 rfl) rfl ?_
  refine g_iload_n (n := 28) hx 2 (dq tX6_notchBehind 18 rfl) rfl rfl ?_
  refine g_iload_n (n := 29) hx 0 (dq tX6_notchBehind 19 rfl) rfl rfl ?_
  refine g_iconst (n := 30) hx (dq tX6_notchBehind 20 rfl) rfl ?_
  refine g_iadd (n := 31) hx (dq tX6_notchBehind 21 rfl) rfl ?_
  refine g_iast (n := 32) (q := log.toNat) hx (aX6_13 (b := s) hs) (dq tX6_notchBehind 22 rfl) rfl (by omega) (by omega) (by omega) rfl (by omega) (by omega) (fun M_6 m_7e m_7 => ?_)
  exact g_vret hx hr (dq tX6_notchBehind 23 rfl) (fun u_ v_ huv_ => ((m_7 u_ v_ (by omega)).trans (m_5 u_ v_ (by omega))))

abbrev qctX8_daysKept (M : zM) (b : Nat) (z : Int) (M' : zM) : Prop := M = M' ∧ 0 ≤ z ∧ z ≤ 30
set_option maxHeartbeats 4000000 in
set_option maxRecDepth 100000 in
theorem ctX8_daysKept (Γ : Gam) (M : zM) (b : Nat) (hb : isX8 b)  : CtI Γ yX8_daysKept cX8_daysKept 1 (some .int) 1 14 [aR Γ b] M (qctX8_daysKept M b) := by
  refine met_i (by decide) (Nat.le_of_ble_eq_true rfl) (fun x hx hr => ?_)
  show G Γ x 1 (QI Γ x (qctX8_daysKept M b)) M 0 [(0, aR Γ b)] []
  refine g_aload_n (n := 1) hx 0 (dq tX8_daysKept 0 rfl) rfl rfl ?_
  refine g_getR (n := 4) hx glX8_12 (sX8_1 hb) (dq tX8_daysKept 1 rfl) rfl ?_
  refine g_getI (n := 7) hx glX8_96 (sX6_0 (iX8_1 hb)) (dq tX8_daysKept 2 rfl) rfl (fun h_1l h_1u => ?_)
  refine g_bipush (n := 9) hx (dq tX8_daysKept 3 rfl) rfl (by decide) ?_
  refine g_min (n := 12) hx wd_879 wd_577 wd_17 wd_578 (dq tX8_daysKept 4 rfl) rfl (Nat.le_of_ble_eq_true rfl) (Nat.le_of_ble_eq_true rfl) (zrI h_1l h_1u (by decide) (by decide)) ⟨by decide, by decide⟩ (fun z_2 h_3 h_31 h_32 h_33 => ?_)
  exact g_iret hx hr (dq tX8_daysKept 5 rfl) h_3 ⟨rfl, (by omega), (by omega)⟩

abbrev qctX8_logsAt (M : zM) (b : Nat) (place : Int) (z : Int) (M' : zM) : Prop := M = M'
set_option maxHeartbeats 4000000 in
set_option maxRecDepth 100000 in
theorem ctX8_logsAt (Γ : Gam) (M : zM) (b : Nat) (hb : isX8 b) (place : Int) (hplacel : (-2147483648) ≤ place) (hplaceu : place ≤ 2147483647)  : CtI Γ yX8_logsAt cX8_logsAt 4 (some .int) 0 0 [aR Γ b, vI place] M (qctX8_logsAt M b place) := by
  refine met_i (by decide) (Nat.le_of_ble_eq_true rfl) (fun x hx hr => ?_)
  show G Γ x 4 (QI Γ x (qctX8_logsAt M b place)) M 0 [(0, aR Γ b), (1, vI place)] []
  refine g_iconst (n := 1) hx (dq tX8_logsAt 0 rfl) rfl ?_
  refine g_istore_n (n := 2) (lv' := [(2, vI 0), (0, aR Γ b), (1, vI place)]) hx (dq tX8_logsAt 1 rfl) (by decide) rfl rfl ?_
  refine g_iconst (n := 3) hx (dq tX8_logsAt 2 rfl) rfl ?_
  refine g_istore_n (n := 4) (lv' := [(3, vI 0), (2, vI 0), (0, aR Γ b), (1, vI place)]) hx (dq tX8_logsAt 3 rfl) (by decide) rfl rfl ?_
  have L_3 : ∀ (n_ : Nat) (i_1 : Int) (i_2 : Int), (0 ≤ i_1) → (i_1 ≤ 12) → ((-2147483648) ≤ i_2) → (i_2 ≤ 2147483647) → ((12 - i_1).toNat = n_) → G Γ x 4 (QI Γ x (qctX8_logsAt M b place)) M 4 [(3, vI i_1), (2, vI i_2), (0, aR Γ b), (1, vI place)] [] := by
    intro n_
    induction n_ using Nat.strongRecOn with
    | _ n_ ih_4 =>
      intro i_1 i_2 h_7 h_8 h_9 h_10 hm_6
      refine g_iload_n (n := 5) hx 0 (dq tX8_logsAt 4 rfl) rfl rfl ?_
      refine g_aload_n (n := 6) hx 2 (dq tX8_logsAt 5 rfl) rfl rfl ?_
      refine g_getR (n := 9) hx glX8_39 (sX8_0 hb) (dq tX8_logsAt 6 rfl) rfl ?_
      refine g_getI (n := 12) hx glX8_69 (sX2_3 (by decide)) (dq tX8_logsAt 7 rfl) rfl (fun h_11l h_11u => ?_)
      refine g_icmp_ge (n := 15) (t := 40) hx (dq tX8_logsAt 8 rfl) (by decide) rfl ⟨by omega, by omega⟩ (zrI h_11l h_11u (by decide) (by decide)) (fun c_12 => ?_) (fun c_12 => ?_)
      · refine g_iload_n (n := 41) hx 1 (dq tX8_logsAt 24 rfl) rfl rfl ?_
        exact g_iret hx hr (dq tX8_logsAt 25 rfl) ⟨by omega, by omega⟩ rfl
      · refine g_aload_n (n := 16) hx 2 (dq tX8_logsAt 9 rfl) rfl rfl ?_
        refine g_getR (n := 19) hx glX8_12 (sX8_1 hb) (dq tX8_logsAt 10 rfl) rfl ?_
        refine g_getR (n := 22) hx glX8_57 (sX6_8 (iX8_1 hb)) (dq tX8_logsAt 11 rfl) rfl ?_
        refine g_iload_n (n := 23) hx 0 (dq tX8_logsAt 12 rfl) rfl rfl ?_
        refine g_iald (n := 24) (q := i_1.toNat) hx (aX6_8 (b := b + 1) (iX8_1 hb)) (dq tX8_logsAt 13 rfl) rfl (by omega) (by omega) (by omega) rfl (fun h_13l h_13u => ?_)
        refine g_iload_n (n := 25) hx 3 (dq tX8_logsAt 14 rfl) rfl rfl ?_
        refine g_icmp_ne (n := 28) (t := 34) hx (dq tX8_logsAt 15 rfl) (by decide) rfl (zrI h_13l h_13u (by decide) (by decide)) (zrI hplacel hplaceu (by decide) (by decide)) (fun c_14 => ?_) (fun c_14 => ?_)
        · refine g_iinc (n := 37) (lv' := [(3, vI (i_1 + 1)), (2, vI i_2), (0, aR Γ b), (1, vI place)]) hx 0 (dq tX8_logsAt 22 rfl) rfl (by decide) rfl rfl ?_
          refine g_goto (n := 4) hx (dq tX8_logsAt 23 rfl) (by decide) ?_
          exact ih_4 _ (by omega) (i_1 + 1) i_2 (by omega) (by omega) (by omega) (by omega) rfl
        · refine g_iload_n (n := 29) hx 1 (dq tX8_logsAt 16 rfl) rfl rfl ?_
          refine g_iconst (n := 30) hx (dq tX8_logsAt 17 rfl) rfl ?_
          refine g_iload_n (n := 31) hx 0 (dq tX8_logsAt 18 rfl) rfl rfl ?_
          refine g_ishl1 (n := 32) hx (dq tX8_logsAt 19 rfl) rfl (by omega) (by omega) ?_
          refine g_nam (fun z_15 h_16 => ?_)
          have h_171 := pw1 (k := 11) (by omega) (by omega) h_16
          obtain ⟨h_172, h_173⟩ := h_171
          refine g_ior (n := 33) hx (dq tX8_logsAt 20 rfl) rfl (fun z_18 h_19 h_20 => ?_)
          clear h_20
          refine g_istore_n (n := 34) (lv' := [(2, vI z_18), (3, vI i_1), (0, aR Γ b), (1, vI place)]) hx (dq tX8_logsAt 21 rfl) (by decide) rfl rfl ?_
          refine g_iinc (n := 37) (lv' := [(3, vI (i_1 + 1)), (2, vI z_18), (0, aR Γ b), (1, vI place)]) hx 1 (dq tX8_logsAt 22 rfl) rfl (by decide) rfl rfl ?_
          refine g_goto (n := 4) hx (dq tX8_logsAt 23 rfl) (by decide) ?_
          exact ih_4 _ (by omega) (i_1 + 1) z_18 (by omega) (by omega) (by omega) (by omega) rfl
  exact L_3 _ 0 0 (by omega) (by omega) (by omega) (by omega) rfl

abbrev qctX8_roomAt (M : zM) (b : Nat) (bend : Int) (z : Int) (M' : zM) : Prop := M = M'
set_option maxHeartbeats 4000000 in
set_option maxRecDepth 100000 in
theorem ctX8_roomAt (Γ : Gam) (M : zM) (b : Nat) (hb : isX8 b) (bend : Int) (hbendl : 0 ≤ bend) (hbendu : bend ≤ 8)  : CtI Γ yX8_roomAt cX8_roomAt 2 (some .int) 1 23 [aR Γ b, vI bend] M (qctX8_roomAt M b bend) := by
  refine met_i (by decide) (Nat.le_of_ble_eq_true rfl) (fun x hx hr => ?_)
  show G Γ x 2 (QI Γ x (qctX8_roomAt M b bend)) M 0 [(0, aR Γ b), (1, vI bend)] []
  refine g_iconst (n := 1) hx (dq tX8_roomAt 0 rfl) rfl ?_
  refine g_aload_n (n := 2) hx 0 (dq tX8_roomAt 1 rfl) rfl rfl ?_
  refine g_getR (n := 5) hx glX8_39 (sX8_0 hb) (dq tX8_roomAt 2 rfl) rfl ?_
  refine g_getR (n := 8) hx glX8_72 (sX2_6 (by decide)) (dq tX8_roomAt 3 rfl) rfl ?_
  refine g_iload_n (n := 9) hx 1 (dq tX8_roomAt 4 rfl) rfl rfl ?_
  refine g_iald (n := 10) (q := bend.toNat) hx (aX2_6 (b := 37) (by decide)) (dq tX8_roomAt 5 rfl) rfl (by omega) (by omega) (by omega) rfl (fun h_1l h_1u => ?_)
  refine g_aload_n (n := 11) hx 0 (dq tX8_roomAt 6 rfl) rfl rfl ?_
  refine g_getR (n := 14) hx glX8_12 (sX8_1 hb) (dq tX8_roomAt 7 rfl) rfl ?_
  refine g_getR (n := 17) hx glX8_75 (sX6_7 (iX8_1 hb)) (dq tX8_roomAt 8 rfl) rfl ?_
  refine g_iload_n (n := 18) hx 1 (dq tX8_roomAt 9 rfl) rfl rfl ?_
  refine g_iald (n := 19) (q := bend.toNat) hx (aX6_7 (b := b + 1) (iX8_1 hb)) (dq tX8_roomAt 10 rfl) rfl (by omega) (by omega) (by omega) rfl (fun h_2l h_2u => ?_)
  refine g_isub (n := 20) hx (dq tX8_roomAt 11 rfl) rfl ?_
  refine g_aload_n (n := 21) hx 0 (dq tX8_roomAt 12 rfl) rfl rfl ?_
  refine g_iload_n (n := 22) hx 1 (dq tX8_roomAt 13 rfl) rfl rfl ?_
  refine g_callVi (n := 25) (As := [vI bend]) (rest := [vI ((M (37 + 2) bend.toNat) - (M (b + 1 + 2) bend.toNat)), vI 0]) hx (ctX8_logsAt Γ M b hb bend (by omega) (by omega)) mlX8_78 (obX8 hb) (dq tX8_roomAt 14 rfl) rfl (Nat.le_of_ble_eq_true rfl) (Nat.le_of_ble_eq_true rfl) (Nat.le_of_ble_eq_true rfl) rfl (fun z_3 M_4 h_5 p_6 => ?_)
  obtain rfl := p_6
  refine g_callSi (n := 28) (As := [vI z_3]) (rest := [vI ((M (37 + 2) bend.toNat) - (M (b + 1 + 2) bend.toNat)), vI 0]) hx (ctJ6_bitCount_0f7a4 Γ M z_3 (by omega) (by omega)) mlX8_82 (dq tX8_roomAt 15 rfl) rfl (Nat.le_of_ble_eq_true rfl) (Nat.le_of_ble_eq_true rfl) (Nat.le_of_ble_eq_true rfl) rfl (fun z_8 M_9 h_10 p_11 => ?_)
  obtain rfl := p_11
  refine g_isub (n := 29) hx (dq tX8_roomAt 16 rfl) rfl ?_
  refine g_any (fun z_13 h_14 => ?_)
  refine g_max (n := 32) hx wd_716 wd_717 wd_17 wd_718 (dq tX8_roomAt 17 rfl) rfl (Nat.le_of_ble_eq_true rfl) (Nat.le_of_ble_eq_true rfl) ⟨by decide, by decide⟩ h_14 (fun z_15 h_16 h_161 h_162 h_163 => ?_)
  exact g_iret hx hr (dq tX8_roomAt 18 rfl) h_16 rfl

abbrev qctX8_reaches (M : zM) (b : Nat) (village : Int) (log : Int) (z : Int) (M' : zM) : Prop := M = M' ∧ (z = 0 ∨ (z = 1))
set_option maxHeartbeats 4000000 in
set_option maxRecDepth 100000 in
theorem ctX8_reaches (Γ : Gam) (M : zM) (b : Nat) (hb : isX8 b) (village : Int) (hvillagel : 0 ≤ village) (hvillageu : village ≤ 5) (log : Int) (hlogl : 0 ≤ log) (hlogu : log ≤ 11)  : CtI Γ yX8_reaches cX8_reaches 4 (some .boolean) 0 0 [aR Γ b, vI village, vI log] M (qctX8_reaches M b village log) := by
  refine met_i (by decide) (Nat.le_of_ble_eq_true rfl) (fun x hx hr => ?_)
  show G Γ x 4 (QI Γ x (qctX8_reaches M b village log)) M 0 [(0, aR Γ b), (1, vI village), (2, vI log)] []
  refine g_aload_n (n := 1) hx 0 (dq tX8_reaches 0 rfl) rfl rfl ?_
  refine g_getR (n := 4) hx glX8_12 (sX8_1 hb) (dq tX8_reaches 1 rfl) rfl ?_
  refine g_getR (n := 7) hx glX8_57 (sX6_8 (iX8_1 hb)) (dq tX8_reaches 2 rfl) rfl ?_
  refine g_iload_n (n := 8) hx 2 (dq tX8_reaches 3 rfl) rfl rfl ?_
  refine g_iald (n := 9) (q := log.toNat) hx (aX6_8 (b := b + 1) (iX8_1 hb)) (dq tX8_reaches 4 rfl) rfl (by omega) (by omega) (by omega) rfl (fun h_1l h_1u => ?_)
  refine g_istore_n (n := 10) (lv' := [(3, vI (M (b + 1 + 3) log.toNat)), (0, aR Γ b), (1, vI village), (2, vI log)]) hx (dq tX8_reaches 5 rfl) (by decide) rfl rfl ?_
  refine g_iload_n (n := 11) hx 0 (dq tX8_reaches 6 rfl) rfl rfl ?_
  refine g_bipush (n := 13) hx (dq tX8_reaches 7 rfl) rfl (by decide) ?_
  refine g_iload_n (n := 14) hx 2 (dq tX8_reaches 8 rfl) rfl rfl ?_
  refine g_iadd (n := 15) hx (dq tX8_reaches 9 rfl) rfl ?_
  refine g_icmp_eq (n := 18) (t := 31) hx (dq tX8_reaches 10 rfl) (by decide) rfl (zrI h_1l h_1u (by decide) (by decide)) ⟨by omega, by omega⟩ (fun c_2 => ?_) (fun c_2 => ?_)
  · refine g_iconst (n := 32) hx (dq tX8_reaches 18 rfl) rfl ?_
    refine g_goto (n := 36) hx (dq tX8_reaches 19 rfl) (by decide) ?_
    exact g_zret hx hr (dq tX8_reaches 21 rfl) (by omega) ⟨rfl, (by omega)⟩
  · refine g_iload_n (n := 19) hx 0 (dq tX8_reaches 11 rfl) rfl rfl ?_
    refine g_aload_n (n := 20) hx 1 (dq tX8_reaches 12 rfl) rfl rfl ?_
    refine g_getR (n := 23) hx glX8_39 (sX8_0 hb) (dq tX8_reaches 13 rfl) rfl ?_
    refine g_getR (n := 26) hx glX8_60 (sX2_5 (by decide)) (dq tX8_reaches 14 rfl) rfl ?_
    refine g_iload_n (n := 27) hx 2 (dq tX8_reaches 15 rfl) rfl rfl ?_
    refine g_iald (n := 28) (q := village.toNat) hx (aX2_5 (b := 37) (by decide)) (dq tX8_reaches 16 rfl) rfl (by omega) (by omega) (by omega) rfl (fun h_3l h_3u => ?_)
    refine g_icmp_ne (n := 31) (t := 35) hx (dq tX8_reaches 17 rfl) (by decide) rfl (zrI h_1l h_1u (by decide) (by decide)) (zrI h_3l h_3u (by decide) (by decide)) (fun c_4 => ?_) (fun c_4 => ?_)
    · refine g_iconst (n := 36) hx (dq tX8_reaches 20 rfl) rfl ?_
      exact g_zret hx hr (dq tX8_reaches 21 rfl) (by omega) ⟨rfl, (by omega)⟩
    · refine g_iconst (n := 32) hx (dq tX8_reaches 18 rfl) rfl ?_
      refine g_goto (n := 36) hx (dq tX8_reaches 19 rfl) (by decide) ?_
      exact g_zret hx hr (dq tX8_reaches 21 rfl) (by omega) ⟨rfl, (by omega)⟩

abbrev qctX8_villagesAt (M : zM) (b : Nat) (place : Int) (z : Int) (M' : zM) : Prop := M = M'
set_option maxHeartbeats 4000000 in
set_option maxRecDepth 100000 in
theorem ctX8_villagesAt (Γ : Gam) (M : zM) (b : Nat) (hb : isX8 b) (place : Int) (hplacel : (-2147483648) ≤ place) (hplaceu : place ≤ 2147483647)  : CtI Γ yX8_villagesAt cX8_villagesAt 4 (some .int) 0 0 [aR Γ b, vI place] M (qctX8_villagesAt M b place) := by
  refine met_i (by decide) (Nat.le_of_ble_eq_true rfl) (fun x hx hr => ?_)
  show G Γ x 4 (QI Γ x (qctX8_villagesAt M b place)) M 0 [(0, aR Γ b), (1, vI place)] []
  refine g_iconst (n := 1) hx (dq tX8_villagesAt 0 rfl) rfl ?_
  refine g_istore_n (n := 2) (lv' := [(2, vI 0), (0, aR Γ b), (1, vI place)]) hx (dq tX8_villagesAt 1 rfl) (by decide) rfl rfl ?_
  refine g_iconst (n := 3) hx (dq tX8_villagesAt 2 rfl) rfl ?_
  refine g_istore_n (n := 4) (lv' := [(3, vI 0), (2, vI 0), (0, aR Γ b), (1, vI place)]) hx (dq tX8_villagesAt 3 rfl) (by decide) rfl rfl ?_
  have L_3 : ∀ (n_ : Nat) (i_1 : Int) (i_2 : Int), (0 ≤ i_1) → (i_1 ≤ 6) → ((-2147483648) ≤ i_2) → (i_2 ≤ 2147483647) → ((6 - i_1).toNat = n_) → G Γ x 4 (QI Γ x (qctX8_villagesAt M b place)) M 4 [(3, vI i_1), (2, vI i_2), (0, aR Γ b), (1, vI place)] [] := by
    intro n_
    induction n_ using Nat.strongRecOn with
    | _ n_ ih_4 =>
      intro i_1 i_2 h_7 h_8 h_9 h_10 hm_6
      refine g_iload_n (n := 5) hx 0 (dq tX8_villagesAt 4 rfl) rfl rfl ?_
      refine g_aload_n (n := 6) hx 2 (dq tX8_villagesAt 5 rfl) rfl rfl ?_
      refine g_getR (n := 9) hx glX8_39 (sX8_0 hb) (dq tX8_villagesAt 6 rfl) rfl ?_
      refine g_getI (n := 12) hx glX8_93 (sX2_1 (by decide)) (dq tX8_villagesAt 7 rfl) rfl (fun h_11l h_11u => ?_)
      refine g_icmp_ge (n := 15) (t := 48) hx (dq tX8_villagesAt 8 rfl) (by decide) rfl ⟨by omega, by omega⟩ (zrI h_11l h_11u (by decide) (by decide)) (fun c_12 => ?_) (fun c_12 => ?_)
      · refine g_iload_n (n := 49) hx 1 (dq tX8_villagesAt 29 rfl) rfl rfl ?_
        exact g_iret hx hr (dq tX8_villagesAt 30 rfl) ⟨by omega, by omega⟩ rfl
      · refine g_iload_n (n := 16) hx 3 (dq tX8_villagesAt 9 rfl) rfl rfl ?_
        refine g_bipush (n := 18) hx (dq tX8_villagesAt 10 rfl) rfl (by decide) ?_
        refine g_iload_n (n := 19) hx 0 (dq tX8_villagesAt 11 rfl) rfl rfl ?_
        refine g_iadd (n := 20) hx (dq tX8_villagesAt 12 rfl) rfl ?_
        refine g_icmp_eq (n := 23) (t := 36) hx (dq tX8_villagesAt 13 rfl) (by decide) rfl (zrI hplacel hplaceu (by decide) (by decide)) ⟨by omega, by omega⟩ (fun c_13 => ?_) (fun c_13 => ?_)
        · refine g_iload_n (n := 37) hx 1 (dq tX8_villagesAt 21 rfl) rfl rfl ?_
          refine g_iconst (n := 38) hx (dq tX8_villagesAt 22 rfl) rfl ?_
          refine g_iload_n (n := 39) hx 0 (dq tX8_villagesAt 23 rfl) rfl rfl ?_
          refine g_ishl1 (n := 40) hx (dq tX8_villagesAt 24 rfl) rfl (by omega) (by omega) ?_
          refine g_nam (fun z_14 h_15 => ?_)
          have h_161 := pw1 (k := 5) (by omega) (by omega) h_15
          obtain ⟨h_162, h_163⟩ := h_161
          refine g_ior (n := 41) hx (dq tX8_villagesAt 25 rfl) rfl (fun z_17 h_18 h_19 => ?_)
          clear h_19
          refine g_istore_n (n := 42) (lv' := [(2, vI z_17), (3, vI i_1), (0, aR Γ b), (1, vI place)]) hx (dq tX8_villagesAt 26 rfl) (by decide) rfl rfl ?_
          refine g_iinc (n := 45) (lv' := [(3, vI (i_1 + 1)), (2, vI z_17), (0, aR Γ b), (1, vI place)]) hx 1 (dq tX8_villagesAt 27 rfl) rfl (by decide) rfl rfl ?_
          refine g_goto (n := 4) hx (dq tX8_villagesAt 28 rfl) (by decide) ?_
          exact ih_4 _ (by omega) (i_1 + 1) z_17 (by omega) (by omega) (by omega) (by omega) rfl
        · refine g_iload_n (n := 24) hx 3 (dq tX8_villagesAt 14 rfl) rfl rfl ?_
          refine g_aload_n (n := 25) hx 2 (dq tX8_villagesAt 15 rfl) rfl rfl ?_
          refine g_getR (n := 28) hx glX8_39 (sX8_0 hb) (dq tX8_villagesAt 16 rfl) rfl ?_
          refine g_getR (n := 31) hx glX8_60 (sX2_5 (by decide)) (dq tX8_villagesAt 17 rfl) rfl ?_
          refine g_iload_n (n := 32) hx 0 (dq tX8_villagesAt 18 rfl) rfl rfl ?_
          refine g_iald (n := 33) (q := i_1.toNat) hx (aX2_5 (b := 37) (by decide)) (dq tX8_villagesAt 19 rfl) rfl (by omega) (by omega) (by omega) rfl (fun h_20l h_20u => ?_)
          refine g_icmp_ne (n := 36) (t := 42) hx (dq tX8_villagesAt 20 rfl) (by decide) rfl (zrI hplacel hplaceu (by decide) (by decide)) (zrI h_20l h_20u (by decide) (by decide)) (fun c_21 => ?_) (fun c_21 => ?_)
          · refine g_iinc (n := 45) (lv' := [(3, vI (i_1 + 1)), (2, vI i_2), (0, aR Γ b), (1, vI place)]) hx 0 (dq tX8_villagesAt 27 rfl) rfl (by decide) rfl rfl ?_
            refine g_goto (n := 4) hx (dq tX8_villagesAt 28 rfl) (by decide) ?_
            exact ih_4 _ (by omega) (i_1 + 1) i_2 (by omega) (by omega) (by omega) (by omega) rfl
          · refine g_iload_n (n := 37) hx 1 (dq tX8_villagesAt 21 rfl) rfl rfl ?_
            refine g_iconst (n := 38) hx (dq tX8_villagesAt 22 rfl) rfl ?_
            refine g_iload_n (n := 39) hx 0 (dq tX8_villagesAt 23 rfl) rfl rfl ?_
            refine g_ishl1 (n := 40) hx (dq tX8_villagesAt 24 rfl) rfl (by omega) (by omega) ?_
            refine g_nam (fun z_22 h_23 => ?_)
            have h_241 := pw1 (k := 5) (by omega) (by omega) h_23
            obtain ⟨h_242, h_243⟩ := h_241
            refine g_ior (n := 41) hx (dq tX8_villagesAt 25 rfl) rfl (fun z_25 h_26 h_27 => ?_)
            clear h_27
            refine g_istore_n (n := 42) (lv' := [(2, vI z_25), (3, vI i_1), (0, aR Γ b), (1, vI place)]) hx (dq tX8_villagesAt 26 rfl) (by decide) rfl rfl ?_
            refine g_iinc (n := 45) (lv' := [(3, vI (i_1 + 1)), (2, vI z_25), (0, aR Γ b), (1, vI place)]) hx 1 (dq tX8_villagesAt 27 rfl) rfl (by decide) rfl rfl ?_
            refine g_goto (n := 4) hx (dq tX8_villagesAt 28 rfl) (by decide) ?_
            exact ih_4 _ (by omega) (i_1 + 1) z_25 (by omega) (by omega) (by omega) (by omega) rfl
  exact L_3 _ 0 0 (by omega) (by omega) (by omega) (by omega) rfl

abbrev qctX8_bendOf (M : zM) (b : Nat) (log : Int) (z : Int) (M' : zM) : Prop := M = M' ∧ (-1) ≤ z ∧ z ≤ 19 ∧ (20 ≤ M (b + 1 + 3) log.toNat → M (b + 1 + 3) log.toNat < 40 → (0 ≤ z ∧ z ≤ 8))
set_option maxHeartbeats 4000000 in
set_option maxRecDepth 100000 in
theorem ctX8_bendOf (Γ : Gam) (M : zM) (b : Nat) (hb : isX8 b) (log : Int) (hlogl : 0 ≤ log) (hlogu : log ≤ 11) (pre0 : log < M 37 3) (gd0 : Gd M 37 (b + 1)) : CtI Γ yX8_bendOf cX8_bendOf 3 (some .int) 0 0 [aR Γ b, vI log] M (qctX8_bendOf M b log) := by
  refine met_i (by decide) (Nat.le_of_ble_eq_true rfl) (fun x hx hr => ?_)
  show G Γ x 3 (QI Γ x (qctX8_bendOf M b log)) M 0 [(0, aR Γ b), (1, vI log)] []
  refine g_aload_n (n := 1) hx 0 (dq tX8_bendOf 0 rfl) rfl rfl ?_
  refine g_getR (n := 4) hx glX8_12 (sX8_1 hb) (dq tX8_bendOf 1 rfl) rfl ?_
  refine g_getR (n := 7) hx glX8_57 (sX6_8 (iX8_1 hb)) (dq tX8_bendOf 2 rfl) rfl ?_
  refine g_iload_n (n := 8) hx 1 (dq tX8_bendOf 3 rfl) rfl rfl ?_
  refine g_iald (n := 9) (q := log.toNat) hx (aX6_8 (b := b + 1) (iX8_1 hb)) (dq tX8_bendOf 4 rfl) rfl (by omega) (by omega) (by omega) rfl (fun h_1l h_1u => ?_)
  refine g_iv (fun h_3 => ?_)
  have h_3v : (0 : Int) ≤ M 37 1 ∧ M 37 1 ≤ 6 := h_3 37 1
  have h_3l : (0 : Int) ≤ M 37 3 ∧ M 37 3 ≤ 12 := h_3 37 3
  clear h_3
  have h_2 := gd0.2.2.1 log.toNat (by omega)
  refine g_istore_n (n := 10) (lv' := [(2, vI (M (b + 1 + 3) log.toNat)), (0, aR Γ b), (1, vI log)]) hx (dq tX8_bendOf 5 rfl) (by decide) rfl rfl ?_
  refine g_iload_n (n := 11) hx 0 (dq tX8_bendOf 6 rfl) rfl rfl ?_
  refine g_bipush (n := 13) hx (dq tX8_bendOf 7 rfl) rfl (by decide) ?_
  refine g_icmp_ge (n := 16) (t := 18) hx (dq tX8_bendOf 8 rfl) (by decide) rfl (zrI h_1l h_1u (by decide) (by decide)) ⟨by decide, by decide⟩ (fun c_4 => ?_) (fun c_4 => ?_)
  · refine g_iload_n (n := 19) hx 0 (dq tX8_bendOf 11 rfl) rfl rfl ?_
    refine g_bipush (n := 21) hx (dq tX8_bendOf 12 rfl) rfl (by decide) ?_
    refine g_icmp_ge (n := 24) (t := 39) hx (dq tX8_bendOf 13 rfl) (by decide) rfl (zrI h_1l h_1u (by decide) (by decide)) ⟨by decide, by decide⟩ (fun c_5 => ?_) (fun c_5 => ?_)
    · refine g_aload_n (n := 40) hx 1 (dq tX8_bendOf 22 rfl) rfl rfl ?_
      refine g_getR (n := 43) hx glX8_39 (sX8_0 hb) (dq tX8_bendOf 23 rfl) rfl ?_
      refine g_getI (n := 46) hx glX8_65 (sX2_0 (by decide)) (dq tX8_bendOf 24 rfl) rfl (fun h_6l h_6u => ?_)
      exact g_iret hx hr (dq tX8_bendOf 25 rfl) (zrI h_6l h_6u (by decide) (by decide)) ⟨rfl, (by omega), (by omega), (by omega)⟩
    · refine g_aload_n (n := 25) hx 1 (dq tX8_bendOf 14 rfl) rfl rfl ?_
      refine g_getR (n := 28) hx glX8_39 (sX8_0 hb) (dq tX8_bendOf 15 rfl) rfl ?_
      refine g_getR (n := 31) hx glX8_60 (sX2_5 (by decide)) (dq tX8_bendOf 16 rfl) rfl ?_
      refine g_iload_n (n := 32) hx 0 (dq tX8_bendOf 17 rfl) rfl rfl ?_
      refine g_bipush (n := 34) hx (dq tX8_bendOf 18 rfl) rfl (by decide) ?_
      refine g_isub (n := 35) hx (dq tX8_bendOf 19 rfl) rfl ?_
      refine g_iald (n := 36) (q := ((M (b + 1 + 3) log.toNat) - 20).toNat) hx (aX2_5 (b := 37) (by decide)) (dq tX8_bendOf 20 rfl) rfl (by omega) (by omega) (by omega) rfl (fun h_7l h_7u => ?_)
      refine g_iv (fun h_9 => ?_)
      have h_9v : (0 : Int) ≤ M 37 1 ∧ M 37 1 ≤ 6 := h_9 37 1
      have h_9l : (0 : Int) ≤ M 37 3 ∧ M 37 3 ≤ 12 := h_9 37 3
      clear h_9
      have h_8 := gd0.1 (((M (b + 1 + 3) log.toNat) - 20).toNat) (by omega)
      refine g_goto (n := 46) hx (dq tX8_bendOf 21 rfl) (by decide) ?_
      exact g_iret hx hr (dq tX8_bendOf 25 rfl) (zrI h_7l h_7u (by decide) (by decide)) ⟨rfl, (by omega), (by omega), (by omega)⟩
  · refine g_iload_n (n := 17) hx 0 (dq tX8_bendOf 9 rfl) rfl rfl ?_
    exact g_iret hx hr (dq tX8_bendOf 10 rfl) (zrI h_1l h_1u (by decide) (by decide)) ⟨rfl, (by omega), (by omega), (by omega)⟩

abbrev qctX8_notchesOf (M : zM) (b : Nat) (log : Int) (village : Int) (z : Int) (M' : zM) : Prop := M = M'
set_option maxHeartbeats 4000000 in
set_option maxRecDepth 100000 in
theorem ctX8_notchesOf (Γ : Gam) (M : zM) (b : Nat) (hb : isX8 b) (log : Int) (hlogl : 0 ≤ log) (hlogu : log ≤ 11) (village : Int) (hvillagel : (-2147483648) ≤ village) (hvillageu : village ≤ 2147483647)  : CtI Γ yX8_notchesOf cX8_notchesOf 5 (some .int) 0 0 [aR Γ b, vI log, vI village] M (qctX8_notchesOf M b log village) := by
  refine met_i (by decide) (Nat.le_of_ble_eq_true rfl) (fun x hx hr => ?_)
  show G Γ x 5 (QI Γ x (qctX8_notchesOf M b log village)) M 0 [(0, aR Γ b), (1, vI log), (2, vI village)] []
  refine g_iconst (n := 1) hx (dq tX8_notchesOf 0 rfl) rfl ?_
  refine g_istore_n (n := 2) (lv' := [(3, vI 0), (0, aR Γ b), (1, vI log), (2, vI village)]) hx (dq tX8_notchesOf 1 rfl) (by decide) rfl rfl ?_
  refine g_iconst (n := 3) hx (dq tX8_notchesOf 2 rfl) rfl ?_
  refine g_istore (n := 5) (lv' := [(4, vI 0), (3, vI 0), (0, aR Γ b), (1, vI log), (2, vI village)]) hx (dq tX8_notchesOf 3 rfl) (by decide) rfl rfl ?_
  have L_3 : ∀ (n_ : Nat) (i_1 : Int) (i_2 : Int), (0 ≤ i_1) → (i_1 ≤ 6) → ((-2147483648) ≤ i_2) → (i_2 ≤ 2147483647) → ((6 - i_1).toNat = n_) → G Γ x 5 (QI Γ x (qctX8_notchesOf M b log village)) M 5 [(4, vI i_1), (3, vI i_2), (0, aR Γ b), (1, vI log), (2, vI village)] [] := by
    intro n_
    induction n_ using Nat.strongRecOn with
    | _ n_ ih_4 =>
      intro i_1 i_2 h_7 h_8 h_9 h_10 hm_6
      refine g_iload (n := 7) hx 0 (dq tX8_notchesOf 4 rfl) rfl rfl ?_
      refine g_aload_n (n := 8) hx 2 (dq tX8_notchesOf 5 rfl) rfl rfl ?_
      refine g_getR (n := 11) hx glX8_12 (sX8_1 hb) (dq tX8_notchesOf 6 rfl) rfl ?_
      refine g_getR (n := 14) hx glX8_114 (sX6_13 (iX8_1 hb)) (dq tX8_notchesOf 7 rfl) rfl ?_
      refine g_iload_n (n := 15) hx 3 (dq tX8_notchesOf 8 rfl) rfl rfl ?_
      refine g_iald (n := 16) (q := log.toNat) hx (aX6_13 (b := b + 1) (iX8_1 hb)) (dq tX8_notchesOf 9 rfl) rfl (by omega) (by omega) (by omega) rfl (fun h_11l h_11u => ?_)
      refine g_icmp_ge (n := 19) (t := 47) hx (dq tX8_notchesOf 10 rfl) (by decide) rfl ⟨by omega, by omega⟩ (zrI h_11l h_11u (by decide) (by decide)) (fun c_12 => ?_) (fun c_12 => ?_)
      · refine g_iload_n (n := 48) hx 1 (dq tX8_notchesOf 25 rfl) rfl rfl ?_
        exact g_iret hx hr (dq tX8_notchesOf 26 rfl) ⟨by omega, by omega⟩ rfl
      · refine g_aload_n (n := 20) hx 2 (dq tX8_notchesOf 11 rfl) rfl rfl ?_
        refine g_getR (n := 23) hx glX8_12 (sX8_1 hb) (dq tX8_notchesOf 12 rfl) rfl ?_
        refine g_getR (n := 26) hx glX8_143 (sX6_14 (iX8_1 hb)) (dq tX8_notchesOf 13 rfl) rfl ?_
        refine g_iload_n (n := 27) hx 3 (dq tX8_notchesOf 14 rfl) rfl rfl ?_
        refine g_bipush (n := 29) hx (dq tX8_notchesOf 15 rfl) rfl (by decide) ?_
        refine g_imul (n := 30) hx (dq tX8_notchesOf 16 rfl) rfl ?_
        refine g_iload (n := 32) hx 0 (dq tX8_notchesOf 17 rfl) rfl rfl ?_
        refine g_iadd (n := 33) hx (dq tX8_notchesOf 18 rfl) rfl ?_
        refine g_iald (n := 34) (q := ((log * 6) + i_1).toNat) hx (aX6_14 (b := b + 1) (iX8_1 hb)) (dq tX8_notchesOf 19 rfl) rfl (by omega) (by omega) (by omega) rfl (fun h_13l h_13u => ?_)
        refine g_iload_n (n := 35) hx 4 (dq tX8_notchesOf 20 rfl) rfl rfl ?_
        refine g_icmp_ne (n := 38) (t := 41) hx (dq tX8_notchesOf 21 rfl) (by decide) rfl (zrI h_13l h_13u (by decide) (by decide)) (zrI hvillagel hvillageu (by decide) (by decide)) (fun c_14 => ?_) (fun c_14 => ?_)
        · refine g_iinc (n := 44) (lv' := [(4, vI (i_1 + 1)), (3, vI i_2), (0, aR Γ b), (1, vI log), (2, vI village)]) hx 0 (dq tX8_notchesOf 23 rfl) rfl (by decide) rfl rfl ?_
          refine g_goto (n := 5) hx (dq tX8_notchesOf 24 rfl) (by decide) ?_
          exact ih_4 _ (by omega) (i_1 + 1) i_2 (by omega) (by omega) (by omega) (by omega) rfl
        · refine g_iinc (n := 41) (lv' := [(3, vI (i_2 + 1)), (4, vI i_1), (0, aR Γ b), (1, vI log), (2, vI village)]) hx 1 (dq tX8_notchesOf 22 rfl) rfl (by decide) rfl rfl ?_
          refine g_anyl (fun z_15 h_16 => ?_)
          refine g_iinc (n := 44) (lv' := [(4, vI (i_1 + 1)), (3, vI z_15), (0, aR Γ b), (1, vI log), (2, vI village)]) hx 1 (dq tX8_notchesOf 23 rfl) rfl (by decide) rfl rfl ?_
          refine g_goto (n := 5) hx (dq tX8_notchesOf 24 rfl) (by decide) ?_
          exact ih_4 _ (by omega) (i_1 + 1) z_15 (by omega) (by omega) (by omega) (by omega) rfl
  exact L_3 _ 0 0 (by omega) (by omega) (by omega) (by omega) rfl

abbrev qctX8_priceOf (M : zM) (b : Nat) (log : Int) (z : Int) (M' : zM) : Prop := M = M'
set_option maxHeartbeats 4000000 in
set_option maxRecDepth 100000 in
theorem ctX8_priceOf (Γ : Gam) (M : zM) (b : Nat) (hb : isX8 b) (log : Int) (hlogl : 0 ≤ log) (hlogu : log ≤ 11) (pre0 : log < M 37 3) (gd0 : Gd M 37 (b + 1)) : CtI Γ yX8_priceOf cX8_priceOf 3 (some .int) 1 22 [aR Γ b, vI log] M (qctX8_priceOf M b log) := by
  refine met_i (by decide) (Nat.le_of_ble_eq_true rfl) (fun x hx hr => ?_)
  show G Γ x 3 (QI Γ x (qctX8_priceOf M b log)) M 0 [(0, aR Γ b), (1, vI log)] []
  refine g_aload_n (n := 1) hx 0 (dq tX8_priceOf 0 rfl) rfl rfl ?_
  refine g_getR (n := 4) hx glX8_12 (sX8_1 hb) (dq tX8_priceOf 1 rfl) rfl ?_
  refine g_getR (n := 7) hx glX8_57 (sX6_8 (iX8_1 hb)) (dq tX8_priceOf 2 rfl) rfl ?_
  refine g_iload_n (n := 8) hx 1 (dq tX8_priceOf 3 rfl) rfl rfl ?_
  refine g_iald (n := 9) (q := log.toNat) hx (aX6_8 (b := b + 1) (iX8_1 hb)) (dq tX8_priceOf 4 rfl) rfl (by omega) (by omega) (by omega) rfl (fun h_1l h_1u => ?_)
  refine g_bipush (n := 11) hx (dq tX8_priceOf 5 rfl) rfl (by decide) ?_
  refine g_icmp_ne (n := 14) (t := 16) hx (dq tX8_priceOf 6 rfl) (by decide) rfl (zrI h_1l h_1u (by decide) (by decide)) ⟨by decide, by decide⟩ (fun c_2 => ?_) (fun c_2 => ?_)
  · refine g_aload_n (n := 17) hx 0 (dq tX8_priceOf 9 rfl) rfl rfl ?_
    refine g_getR (n := 20) hx glX8_12 (sX8_1 hb) (dq tX8_priceOf 10 rfl) rfl ?_
    refine g_getR (n := 23) hx glX8_153 (sX6_9 (iX8_1 hb)) (dq tX8_priceOf 11 rfl) rfl ?_
    refine g_iload_n (n := 24) hx 1 (dq tX8_priceOf 12 rfl) rfl rfl ?_
    refine g_iald (n := 25) (q := log.toNat) hx (aX6_9 (b := b + 1) (iX8_1 hb)) (dq tX8_priceOf 13 rfl) rfl (by omega) (by omega) (by omega) rfl (fun h_3l h_3u => ?_)
    refine g_aload_n (n := 26) hx 0 (dq tX8_priceOf 14 rfl) rfl rfl ?_
    refine g_getR (n := 29) hx glX8_39 (sX8_0 hb) (dq tX8_priceOf 15 rfl) rfl ?_
    refine g_getR (n := 32) hx glX8_156 (sX2_7 (by decide)) (dq tX8_priceOf 16 rfl) rfl ?_
    refine g_aload_n (n := 33) hx 0 (dq tX8_priceOf 17 rfl) rfl rfl ?_
    refine g_getR (n := 36) hx glX8_39 (sX8_0 hb) (dq tX8_priceOf 18 rfl) rfl ?_
    refine g_getR (n := 39) hx glX8_159 (sX2_8 (by decide)) (dq tX8_priceOf 19 rfl) rfl ?_
    refine g_iload_n (n := 40) hx 1 (dq tX8_priceOf 20 rfl) rfl rfl ?_
    refine g_iald (n := 41) (q := log.toNat) hx (aX2_8 (b := 37) (by decide)) (dq tX8_priceOf 21 rfl) rfl (by omega) (by omega) (by omega) rfl (fun h_4l h_4u => ?_)
    refine g_iv (fun h_6 => ?_)
    have h_6v : (0 : Int) ≤ M 37 1 ∧ M 37 1 ≤ 6 := h_6 37 1
    have h_6l : (0 : Int) ≤ M 37 3 ∧ M 37 3 ≤ 12 := h_6 37 3
    clear h_6
    have h_5 := gd0.2.1 log.toNat (by omega)
    refine g_iald (n := 42) (q := (M (37 + 4) log.toNat).toNat) hx (aX2_7 (b := 37) (by decide)) (dq tX8_priceOf 22 rfl) rfl (by omega) (by omega) (by omega) rfl (fun h_7l h_7u => ?_)
    refine g_imul (n := 43) hx (dq tX8_priceOf 23 rfl) rfl ?_
    refine g_any (fun z_8 h_9 => ?_)
    refine g_istore_n (n := 44) (lv' := [(2, vI z_8), (0, aR Γ b), (1, vI log)]) hx (dq tX8_priceOf 24 rfl) (by decide) rfl rfl ?_
    refine g_iconst (n := 45) hx (dq tX8_priceOf 25 rfl) rfl ?_
    refine g_iload_n (n := 46) hx 0 (dq tX8_priceOf 26 rfl) rfl rfl ?_
    refine g_aload_n (n := 47) hx 1 (dq tX8_priceOf 27 rfl) rfl rfl ?_
    refine g_getR (n := 50) hx glX8_39 (sX8_0 hb) (dq tX8_priceOf 28 rfl) rfl ?_
    refine g_getI (n := 53) hx glX8_162 (sX2_4 (by decide)) (dq tX8_priceOf 29 rfl) rfl (fun h_10l h_10u => ?_)
    refine g_aload_n (n := 54) hx 1 (dq tX8_priceOf 30 rfl) rfl rfl ?_
    refine g_getR (n := 57) hx glX8_39 (sX8_0 hb) (dq tX8_priceOf 31 rfl) rfl ?_
    refine g_getI (n := 60) hx glX8_65 (sX2_0 (by decide)) (dq tX8_priceOf 32 rfl) rfl (fun h_11l h_11u => ?_)
    refine g_aload_n (n := 61) hx 1 (dq tX8_priceOf 33 rfl) rfl rfl ?_
    refine g_iload_n (n := 62) hx 2 (dq tX8_priceOf 34 rfl) rfl rfl ?_
    refine g_callVi (n := 65) (As := [vI log]) (rest := [vI (M 37 0), vI (M 37 4), vI z_8, vI 0]) hx (ctX8_bendOf Γ M b hb log (by omega) (by omega) (by omega) gd0) mlX8_165 (obX8 hb) (dq tX8_priceOf 35 rfl) rfl (Nat.le_of_ble_eq_true rfl) (Nat.le_of_ble_eq_true rfl) (Nat.le_of_ble_eq_true rfl) rfl (fun z_12 M_13 h_14 p_15 => ?_)
    obtain ⟨rfl, h_17, h_18, h_19⟩ := p_15
    refine g_isub (n := 66) hx (dq tX8_priceOf 36 rfl) rfl ?_
    refine g_imul (n := 67) hx (dq tX8_priceOf 37 rfl) rfl ?_
    refine g_isub (n := 68) hx (dq tX8_priceOf 38 rfl) rfl ?_
    refine g_any (fun z_20 h_21 => ?_)
    refine g_max (n := 71) hx wd_716 wd_717 wd_17 wd_718 (dq tX8_priceOf 39 rfl) rfl (Nat.le_of_ble_eq_true rfl) (Nat.le_of_ble_eq_true rfl) ⟨by decide, by decide⟩ h_21 (fun z_22 h_23 h_231 h_232 h_233 => ?_)
    exact g_iret hx hr (dq tX8_priceOf 40 rfl) h_23 rfl
  · refine g_iconst (n := 15) hx (dq tX8_priceOf 7 rfl) rfl ?_
    exact g_iret hx hr (dq tX8_priceOf 8 rfl) ⟨by decide, by decide⟩ rfl

abbrev qctX8_priceOfSet (M : zM) (b : Nat) (logs : Int) (z : Int) (M' : zM) : Prop := M = M'
set_option maxHeartbeats 4000000 in
set_option maxRecDepth 100000 in
theorem ctX8_priceOfSet (Γ : Gam) (M : zM) (b : Nat) (hb : isX8 b) (logs : Int) (hlogsl : (-2147483648) ≤ logs) (hlogsu : logs ≤ 2147483647) (gd0 : Gd M 37 (b + 1)) : CtI Γ yX8_priceOfSet cX8_priceOfSet 4 (some .int) 2 44 [aR Γ b, vI logs] M (qctX8_priceOfSet M b logs) := by
  refine met_i (by decide) (Nat.le_of_ble_eq_true rfl) (fun x hx hr => ?_)
  show G Γ x 4 (QI Γ x (qctX8_priceOfSet M b logs)) M 0 [(0, aR Γ b), (1, vI logs)] []
  refine g_iconst (n := 1) hx (dq tX8_priceOfSet 0 rfl) rfl ?_
  refine g_istore_n (n := 2) (lv' := [(2, vI 0), (0, aR Γ b), (1, vI logs)]) hx (dq tX8_priceOfSet 1 rfl) (by decide) rfl rfl ?_
  refine g_iconst (n := 3) hx (dq tX8_priceOfSet 2 rfl) rfl ?_
  refine g_istore_n (n := 4) (lv' := [(3, vI 0), (2, vI 0), (0, aR Γ b), (1, vI logs)]) hx (dq tX8_priceOfSet 3 rfl) (by decide) rfl rfl ?_
  have L_3 : ∀ (n_ : Nat) (i_1 : Int) (i_2 : Int), (0 ≤ i_1) → (i_1 ≤ 12) → ((-2147483648) ≤ i_2) → (i_2 ≤ 2147483647) → ((12 - i_1).toNat = n_) → G Γ x 4 (QI Γ x (qctX8_priceOfSet M b logs)) M 4 [(3, vI i_1), (2, vI i_2), (0, aR Γ b), (1, vI logs)] [] := by
    intro n_
    induction n_ using Nat.strongRecOn with
    | _ n_ ih_4 =>
      intro i_1 i_2 h_7 h_8 h_9 h_10 hm_6
      refine g_iload_n (n := 5) hx 0 (dq tX8_priceOfSet 4 rfl) rfl rfl ?_
      refine g_aload_n (n := 6) hx 2 (dq tX8_priceOfSet 5 rfl) rfl rfl ?_
      refine g_getR (n := 9) hx glX8_39 (sX8_0 hb) (dq tX8_priceOfSet 6 rfl) rfl ?_
      refine g_getI (n := 12) hx glX8_69 (sX2_3 (by decide)) (dq tX8_priceOfSet 7 rfl) rfl (fun h_11l h_11u => ?_)
      refine g_icmp_ge (n := 15) (t := 38) hx (dq tX8_priceOfSet 8 rfl) (by decide) rfl ⟨by omega, by omega⟩ (zrI h_11l h_11u (by decide) (by decide)) (fun c_12 => ?_) (fun c_12 => ?_)
      · refine g_iload_n (n := 39) hx 1 (dq tX8_priceOfSet 24 rfl) rfl rfl ?_
        exact g_iret hx hr (dq tX8_priceOfSet 25 rfl) ⟨by omega, by omega⟩ rfl
      · refine g_iload_n (n := 16) hx 3 (dq tX8_priceOfSet 9 rfl) rfl rfl ?_
        refine g_iload_n (n := 17) hx 0 (dq tX8_priceOfSet 10 rfl) rfl rfl ?_
        refine g_ishr (n := 18) hx (dq tX8_priceOfSet 11 rfl) rfl (fun z_13 h_14 => ?_)
        refine g_iconst (n := 19) hx (dq tX8_priceOfSet 12 rfl) rfl ?_
        refine g_iand (n := 20) hx (dq tX8_priceOfSet 13 rfl) rfl (fun z_16 h_17 h_181 h_182 => ?_)
        obtain ⟨h_183, h_184⟩ := h_181 (by omega) (by omega)
        clear h_181 h_182
        refine g_iconst (n := 21) hx (dq tX8_priceOfSet 14 rfl) rfl ?_
        refine g_icmp_ne (n := 24) (t := 32) hx (dq tX8_priceOfSet 15 rfl) (by decide) rfl h_17 ⟨by decide, by decide⟩ (fun c_19 => ?_) (fun c_19 => ?_)
        · refine g_iinc (n := 35) (lv' := [(3, vI (i_1 + 1)), (2, vI i_2), (0, aR Γ b), (1, vI logs)]) hx 0 (dq tX8_priceOfSet 22 rfl) rfl (by decide) rfl rfl ?_
          refine g_goto (n := 4) hx (dq tX8_priceOfSet 23 rfl) (by decide) ?_
          exact ih_4 _ (by omega) (i_1 + 1) i_2 (by omega) (by omega) (by omega) (by omega) rfl
        · refine g_iload_n (n := 25) hx 1 (dq tX8_priceOfSet 16 rfl) rfl rfl ?_
          refine g_aload_n (n := 26) hx 2 (dq tX8_priceOfSet 17 rfl) rfl rfl ?_
          refine g_iload_n (n := 27) hx 0 (dq tX8_priceOfSet 18 rfl) rfl rfl ?_
          refine g_callVi (n := 30) (As := [vI i_1]) (rest := [vI i_2]) hx (ctX8_priceOf Γ M b hb i_1 (by omega) (by omega) (by omega) gd0) mlX8_168 (obX8 hb) (dq tX8_priceOfSet 19 rfl) rfl (Nat.le_of_ble_eq_true rfl) (Nat.le_of_ble_eq_true rfl) (Nat.le_of_ble_eq_true rfl) rfl (fun z_20 M_21 h_22 p_23 => ?_)
          obtain rfl := p_23
          refine g_iadd (n := 31) hx (dq tX8_priceOfSet 20 rfl) rfl ?_
          refine g_any (fun z_25 h_26 => ?_)
          refine g_istore_n (n := 32) (lv' := [(2, vI z_25), (3, vI i_1), (0, aR Γ b), (1, vI logs)]) hx (dq tX8_priceOfSet 21 rfl) (by decide) rfl rfl ?_
          refine g_iinc (n := 35) (lv' := [(3, vI (i_1 + 1)), (2, vI z_25), (0, aR Γ b), (1, vI logs)]) hx 1 (dq tX8_priceOfSet 22 rfl) rfl (by decide) rfl rfl ?_
          refine g_goto (n := 4) hx (dq tX8_priceOfSet 23 rfl) (by decide) ?_
          exact ih_4 _ (by omega) (i_1 + 1) z_25 (by omega) (by omega) (by omega) (by omega) rfl
  exact L_3 _ 0 0 (by omega) (by omega) (by omega) (by omega) rfl
