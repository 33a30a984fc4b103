abbrev qctX10_in (M : zM) (v : Int) (low : Int) (high : Int) (z : Int) (M' : zM) : Prop := M = M' ∧ (z = 0 ∨ (z = 1 ∧ low ≤ v ∧ v ≤ high)) ∧ (z = 0 → (v < low ∨ high < v))
set_option maxHeartbeats 4000000 in
set_option maxRecDepth 100000 in
theorem ctX10_in (Γ : Gam) (M : zM) (v : Int) (hvl : -4611686018427387904 ≤ v) (hvu : v ≤ 4611686018427387904) (low : Int) (hlowl : -4611686018427387904 ≤ low) (hlowu : low ≤ 4611686018427387904) (high : Int) (hhighl : -4611686018427387904 ≤ high) (hhighu : high ≤ 4611686018427387904)  : CtI Γ yX10_in cX10_in 6 (some .boolean) 0 0 [vL v, vL low, vL high] M (qctX10_in M v low high) := by
  refine met_i (by decide) (Nat.le_of_ble_eq_true rfl) (fun x hx hr => ?_)
  show G Γ x 6 (QI Γ x (qctX10_in M v low high)) M 0 [(0, vL v), (2, vL low), (4, vL high)] []
  refine g_lload_n (n := 1) hx 0 (dq tX10_in 0 rfl) rfl rfl ?_
  refine g_lload_n (n := 2) hx 1 (dq tX10_in 1 rfl) rfl rfl ?_
  refine g_lcmp (n := 3) hx (dq tX10_in 2 rfl) rfl (by omega) (by omega) (by omega) (by omega) (fun z_1 h_2 => ?_)
  refine g_if_lt (n := 6) (t := 17) hx (dq tX10_in 3 rfl) (by decide) rfl ⟨by omega, by omega⟩ (fun c_3 => ?_) (fun c_3 => ?_)
  · have h_4 : v < low := by omega
    clear h_2
    refine g_iconst (n := 18) hx (dq tX10_in 10 rfl) rfl ?_
    exact g_zret hx hr (dq tX10_in 11 rfl) (by omega) ⟨rfl, (by omega), (by omega)⟩
  · have h_5 : low ≤ v := by omega
    clear h_2
    refine g_lload_n (n := 7) hx 0 (dq tX10_in 4 rfl) rfl rfl ?_
    refine g_lload (n := 9) hx 2 (dq tX10_in 5 rfl) rfl rfl ?_
    refine g_lcmp (n := 10) hx (dq tX10_in 6 rfl) rfl (by omega) (by omega) (by omega) (by omega) (fun z_6 h_7 => ?_)
    refine g_if_gt (n := 13) (t := 17) hx (dq tX10_in 7 rfl) (by decide) rfl ⟨by omega, by omega⟩ (fun c_8 => ?_) (fun c_8 => ?_)
    · have h_9 : high < v := by omega
      clear h_7
      refine g_iconst (n := 18) hx (dq tX10_in 10 rfl) rfl ?_
      exact g_zret hx hr (dq tX10_in 11 rfl) (by omega) ⟨rfl, (by omega), (by omega)⟩
    · have h_10 : v ≤ high := by omega
      clear h_7
      refine g_iconst (n := 14) hx (dq tX10_in 8 rfl) rfl ?_
      refine g_goto (n := 18) hx (dq tX10_in 9 rfl) (by decide) ?_
      exact g_zret hx hr (dq tX10_in 11 rfl) (by omega) ⟨rfl, (by omega), (by omega)⟩

abbrev qctX10_bits (M : zM) (set : Int) (z : Int) (M' : zM) : Prop := M = M'
set_option maxHeartbeats 4000000 in
set_option maxRecDepth 100000 in
theorem ctX10_bits (Γ : Gam) (M : zM) (set : Int) (hsetl : (-2147483648) ≤ set) (hsetu : set ≤ 2147483647)  : CtI Γ yX10_bits cX10_bits 3 (some .int) 0 0 [vI set] M (qctX10_bits M set) := by
  refine met_i (by decide) (Nat.le_of_ble_eq_true rfl) (fun x hx hr => ?_)
  show G Γ x 3 (QI Γ x (qctX10_bits M set)) M 0 [(0, vI set)] []
  refine g_iconst (n := 1) hx (dq tX10_bits 0 rfl) rfl ?_
  refine g_istore_n (n := 2) (lv' := [(1, vI 0), (0, vI set)]) hx (dq tX10_bits 1 rfl) (by decide) rfl rfl ?_
  refine g_iconst (n := 3) hx (dq tX10_bits 2 rfl) rfl ?_
  refine g_istore_n (n := 4) (lv' := [(2, vI 0), (1, vI 0), (0, vI set)]) hx (dq tX10_bits 3 rfl) (by decide) rfl rfl ?_
  have L_3 : ∀ (n_ : Nat) (i_1 : Int) (i_2 : Int), (0 ≤ i_1) → (i_1 ≤ 12) → ((-2147483648) ≤ i_2) → (i_2 ≤ 2147483647) → ((12 - i_1).toNat = n_) → G Γ x 3 (QI Γ x (qctX10_bits M set)) M 4 [(2, vI i_1), (1, vI i_2), (0, vI set)] [] := by
    intro n_
    induction n_ using Nat.strongRecOn with
    | _ n_ ih_4 =>
      intro i_1 i_2 h_7 h_8 h_9 h_10 hm_6
      refine g_iload_n (n := 5) hx 0 (dq tX10_bits 4 rfl) rfl rfl ?_
      refine g_bipush (n := 7) hx (dq tX10_bits 5 rfl) rfl (by decide) ?_
      refine g_icmp_ge (n := 10) (t := 24) hx (dq tX10_bits 6 rfl) (by decide) rfl ⟨by omega, by omega⟩ ⟨by decide, by decide⟩ (fun c_11 => ?_) (fun c_11 => ?_)
      · refine g_iload_n (n := 25) hx 1 (dq tX10_bits 17 rfl) rfl rfl ?_
        exact g_iret hx hr (dq tX10_bits 18 rfl) ⟨by omega, by omega⟩ rfl
      · refine g_iload_n (n := 11) hx 1 (dq tX10_bits 7 rfl) rfl rfl ?_
        refine g_iload_n (n := 12) hx 2 (dq tX10_bits 8 rfl) rfl rfl ?_
        refine g_iload_n (n := 13) hx 0 (dq tX10_bits 9 rfl) rfl rfl ?_
        refine g_ishr (n := 14) hx (dq tX10_bits 10 rfl) rfl (fun z_12 h_13 => ?_)
        refine g_iconst (n := 15) hx (dq tX10_bits 11 rfl) rfl ?_
        refine g_iand (n := 16) hx (dq tX10_bits 12 rfl) rfl (fun z_15 h_16 h_171 h_172 => ?_)
        obtain ⟨h_173, h_174⟩ := h_171 (by omega) (by omega)
        clear h_171 h_172
        refine g_iadd (n := 17) hx (dq tX10_bits 13 rfl) rfl ?_
        refine g_any (fun z_18 h_19 => ?_)
        refine g_istore_n (n := 18) (lv' := [(1, vI z_18), (2, vI i_1), (0, vI set)]) hx (dq tX10_bits 14 rfl) (by decide) rfl rfl ?_
        refine g_iinc (n := 21) (lv' := [(2, vI (i_1 + 1)), (1, vI z_18), (0, vI set)]) hx 1 (dq tX10_bits 15 rfl) rfl (by decide) rfl rfl ?_
        refine g_goto (n := 4) hx (dq tX10_bits 16 rfl) (by decide) ?_
        exact ih_4 _ (by omega) (i_1 + 1) z_18 (by omega) (by omega) (by omega) (by omega) rfl
  exact L_3 _ 0 0 (by omega) (by omega) (by omega) (by omega) rfl

abbrev qctX10_isRiver (M : zM)  (z : Int) (M' : zM) : Prop := M = M' ∧ (z = 0 ∨ (z = 1 ∧ 0 < M (229 + 1) 0))
set_option maxHeartbeats 4000000 in
set_option maxRecDepth 100000 in
theorem ctX10_isRiver (Γ : Gam) (M : zM)   : CtI Γ yX10_isRiver cX10_isRiver 1 (some .boolean) 0 0 [aR Γ 229] M (qctX10_isRiver M) := by
  refine met_i (by decide) (Nat.le_of_ble_eq_true rfl) (fun x hx hr => ?_)
  show G Γ x 1 (QI Γ x (qctX10_isRiver M)) M 0 [(0, aR Γ 229)] []
  refine g_aload_n (n := 1) hx 0 (dq tX10_isRiver 0 rfl) rfl rfl ?_
  refine g_getR (n := 4) hx glX10_9 (sX10_1 (by decide)) (dq tX10_isRiver 1 rfl) rfl ?_
  refine g_iconst (n := 5) hx (dq tX10_isRiver 2 rfl) rfl ?_
  refine g_ialdX (n := 6) (q := 0) hx (aX10_1 (b := 229) (by decide)) (dq tX10_isRiver 3 rfl) rfl (by decide) (by decide) (by decide) rfl (fun h_1l h_1u => ?_)
  have h_1l : 0 ≤ M (229 + 1) 0 := h_1l
  have h_1u : M (229 + 1) 0 ≤ 9 := h_1u
  refine g_if_le (n := 9) (t := 13) hx (dq tX10_isRiver 4 rfl) (by decide) rfl (zrI h_1l h_1u (by decide) (by decide)) (fun c_2 => ?_) (fun c_2 => ?_)
  · refine g_iconst (n := 14) hx (dq tX10_isRiver 7 rfl) rfl ?_
    exact g_zret hx hr (dq tX10_isRiver 8 rfl) (by omega) ⟨rfl, (by omega)⟩
  · refine g_iconst (n := 10) hx (dq tX10_isRiver 5 rfl) rfl ?_
    refine g_goto (n := 14) hx (dq tX10_isRiver 6 rfl) (by decide) ?_
    exact g_zret hx hr (dq tX10_isRiver 8 rfl) (by omega) ⟨rfl, (by omega)⟩

abbrev qctX10_isBend (M : zM) (b_ : Int) (z : Int) (M' : zM) : Prop := M = M' ∧ (z = 0 ∨ (z = 1 ∧ 0 ≤ b_ ∧ b_ ≤ 8 ∧ b_ < M (229 + 1) 0))
set_option maxHeartbeats 4000000 in
set_option maxRecDepth 100000 in
theorem ctX10_isBend (Γ : Gam) (M : zM) (b_ : Int) (hb_l : (-2147483648) ≤ b_) (hb_u : b_ ≤ 2147483647)  : CtI Γ yX10_isBend cX10_isBend 2 (some .boolean) 1 25 [aR Γ 229, vI b_] M (qctX10_isBend M b_) := by
  refine met_i (by decide) (Nat.le_of_ble_eq_true rfl) (fun x hx hr => ?_)
  show G Γ x 2 (QI Γ x (qctX10_isBend M b_)) M 0 [(0, aR Γ 229), (1, vI b_)] []
  refine g_iload_n (n := 1) hx 1 (dq tX10_isBend 0 rfl) rfl rfl ?_
  refine g_i2l (n := 2) hx (dq tX10_isBend 1 rfl) rfl (zrI hb_l hb_u (by decide) (by decide)) ?_
  refine g_lconst (n := 3) (z := 0) hx (dq tX10_isBend 2 rfl) rfl (by decide) ?_
  refine g_aload_n (n := 4) hx 0 (dq tX10_isBend 3 rfl) rfl rfl ?_
  refine g_getR (n := 7) hx glX10_9 (sX10_1 (by decide)) (dq tX10_isBend 4 rfl) rfl ?_
  refine g_iconst (n := 8) hx (dq tX10_isBend 5 rfl) rfl ?_
  refine g_ialdX (n := 9) (q := 0) hx (aX10_1 (b := 229) (by decide)) (dq tX10_isBend 6 rfl) rfl (by decide) (by decide) (by decide) rfl (fun h_1l h_1u => ?_)
  have h_1l : 0 ≤ M (229 + 1) 0 := h_1l
  have h_1u : M (229 + 1) 0 ≤ 9 := h_1u
  refine g_iconst (n := 10) hx (dq tX10_isBend 7 rfl) rfl ?_
  refine g_isub (n := 11) hx (dq tX10_isBend 8 rfl) rfl ?_
  refine g_i2l (n := 12) hx (dq tX10_isBend 9 rfl) rfl ⟨by omega, by omega⟩ ?_
  refine g_callSi (n := 15) (As := [vL b_, vL 0, vL ((M (229 + 1) 0) - 1)]) (rest := []) hx (ctX10_in Γ M b_ (by omega) (by omega) 0 (by omega) (by omega) ((M (229 + 1) 0) - 1) (by omega) (by omega)) mlX10_191 (dq tX10_isBend 10 rfl) rfl (Nat.le_of_ble_eq_true rfl) (Nat.le_of_ble_eq_true rfl) (Nat.le_of_ble_eq_true rfl) rfl (fun z_2 M_3 h_4 p_5 => ?_)
  obtain ⟨rfl, b_7, h_8⟩ := p_5
  exact g_zret hx hr (dq tX10_isBend 11 rfl) (by omega) ⟨rfl, (by omega)⟩

abbrev qctX10_isVillage (M : zM) (v : Int) (z : Int) (M' : zM) : Prop := M = M' ∧ (z = 0 ∨ (z = 1 ∧ 0 ≤ v ∧ v ≤ 5 ∧ v < M (229 + 1) 1))
set_option maxHeartbeats 4000000 in
set_option maxRecDepth 100000 in
theorem ctX10_isVillage (Γ : Gam) (M : zM) (v : Int) (hvl : (-2147483648) ≤ v) (hvu : v ≤ 2147483647)  : CtI Γ yX10_isVillage cX10_isVillage 2 (some .boolean) 1 25 [aR Γ 229, vI v] M (qctX10_isVillage M v) := by
  refine met_i (by decide) (Nat.le_of_ble_eq_true rfl) (fun x hx hr => ?_)
  show G Γ x 2 (QI Γ x (qctX10_isVillage M v)) M 0 [(0, aR Γ 229), (1, vI v)] []
  refine g_iload_n (n := 1) hx 1 (dq tX10_isVillage 0 rfl) rfl rfl ?_
  refine g_i2l (n := 2) hx (dq tX10_isVillage 1 rfl) rfl (zrI hvl hvu (by decide) (by decide)) ?_
  refine g_lconst (n := 3) (z := 0) hx (dq tX10_isVillage 2 rfl) rfl (by decide) ?_
  refine g_aload_n (n := 4) hx 0 (dq tX10_isVillage 3 rfl) rfl rfl ?_
  refine g_getR (n := 7) hx glX10_9 (sX10_1 (by decide)) (dq tX10_isVillage 4 rfl) rfl ?_
  refine g_iconst (n := 8) hx (dq tX10_isVillage 5 rfl) rfl ?_
  refine g_ialdX (n := 9) (q := 1) hx (aX10_1 (b := 229) (by decide)) (dq tX10_isVillage 6 rfl) rfl (by decide) (by decide) (by decide) rfl (fun h_1l h_1u => ?_)
  have h_1l : 0 ≤ M (229 + 1) 1 := h_1l
  have h_1u : M (229 + 1) 1 ≤ 6 := h_1u
  refine g_iconst (n := 10) hx (dq tX10_isVillage 7 rfl) rfl ?_
  refine g_isub (n := 11) hx (dq tX10_isVillage 8 rfl) rfl ?_
  refine g_i2l (n := 12) hx (dq tX10_isVillage 9 rfl) rfl ⟨by omega, by omega⟩ ?_
  refine g_callSi (n := 15) (As := [vL v, vL 0, vL ((M (229 + 1) 1) - 1)]) (rest := []) hx (ctX10_in Γ M v (by omega) (by omega) 0 (by omega) (by omega) ((M (229 + 1) 1) - 1) (by omega) (by omega)) mlX10_191 (dq tX10_isVillage 10 rfl) rfl (Nat.le_of_ble_eq_true rfl) (Nat.le_of_ble_eq_true rfl) (Nat.le_of_ble_eq_true rfl) rfl (fun z_2 M_3 h_4 p_5 => ?_)
  obtain ⟨rfl, b_7, h_8⟩ := p_5
  exact g_zret hx hr (dq tX10_isVillage 11 rfl) (by omega) ⟨rfl, (by omega)⟩

abbrev qctX10_isLog (M : zM) (l : Int) (z : Int) (M' : zM) : Prop := M = M' ∧ (z = 0 ∨ (z = 1 ∧ 0 ≤ l ∧ l ≤ 11 ∧ l < M (229 + 1) 3))
set_option maxHeartbeats 4000000 in
set_option maxRecDepth 100000 in
theorem ctX10_isLog (Γ : Gam) (M : zM) (l : Int) (hll : (-2147483648) ≤ l) (hlu : l ≤ 2147483647)  : CtI Γ yX10_isLog cX10_isLog 2 (some .boolean) 1 25 [aR Γ 229, vI l] M (qctX10_isLog M l) := by
  refine met_i (by decide) (Nat.le_of_ble_eq_true rfl) (fun x hx hr => ?_)
  show G Γ x 2 (QI Γ x (qctX10_isLog M l)) M 0 [(0, aR Γ 229), (1, vI l)] []
  refine g_iload_n (n := 1) hx 1 (dq tX10_isLog 0 rfl) rfl rfl ?_
  refine g_i2l (n := 2) hx (dq tX10_isLog 1 rfl) rfl (zrI hll hlu (by decide) (by decide)) ?_
  refine g_lconst (n := 3) (z := 0) hx (dq tX10_isLog 2 rfl) rfl (by decide) ?_
  refine g_aload_n (n := 4) hx 0 (dq tX10_isLog 3 rfl) rfl rfl ?_
  refine g_getR (n := 7) hx glX10_9 (sX10_1 (by decide)) (dq tX10_isLog 4 rfl) rfl ?_
  refine g_iconst (n := 8) hx (dq tX10_isLog 5 rfl) rfl ?_
  refine g_ialdX (n := 9) (q := 3) hx (aX10_1 (b := 229) (by decide)) (dq tX10_isLog 6 rfl) rfl (by decide) (by decide) (by decide) rfl (fun h_1l h_1u => ?_)
  have h_1l : 0 ≤ M (229 + 1) 3 := h_1l
  have h_1u : M (229 + 1) 3 ≤ 12 := h_1u
  refine g_iconst (n := 10) hx (dq tX10_isLog 7 rfl) rfl ?_
  refine g_isub (n := 11) hx (dq tX10_isLog 8 rfl) rfl ?_
  refine g_i2l (n := 12) hx (dq tX10_isLog 9 rfl) rfl ⟨by omega, by omega⟩ ?_
  refine g_callSi (n := 15) (As := [vL l, vL 0, vL ((M (229 + 1) 3) - 1)]) (rest := []) hx (ctX10_in Γ M l (by omega) (by omega) 0 (by omega) (by omega) ((M (229 + 1) 3) - 1) (by omega) (by omega)) mlX10_191 (dq tX10_isLog 10 rfl) rfl (Nat.le_of_ble_eq_true rfl) (Nat.le_of_ble_eq_true rfl) (Nat.le_of_ble_eq_true rfl) rfl (fun z_2 M_3 h_4 p_5 => ?_)
  obtain ⟨rfl, b_7, h_8⟩ := p_5
  exact g_zret hx hr (dq tX10_isLog 11 rfl) (by omega) ⟨rfl, (by omega)⟩

abbrev qctX10_isInWater (M : zM) (l : Int) (z : Int) (M' : zM) : Prop := M = M' ∧ (z = 0 ∨ (z = 1 ∧ M (229 + 12) l.toNat < 9)) ∧ (z = 0 → 9 ≤ M (229 + 12) l.toNat)
set_option maxHeartbeats 4000000 in
set_option maxRecDepth 100000 in
theorem ctX10_isInWater (Γ : Gam) (M : zM) (l : Int) (hll : 0 ≤ l) (hlu : l ≤ 11)  : CtI Γ yX10_isInWater cX10_isInWater 2 (some .boolean) 0 0 [aR Γ 229, vI l] M (qctX10_isInWater M l) := by
  refine met_i (by decide) (Nat.le_of_ble_eq_true rfl) (fun x hx hr => ?_)
  show G Γ x 2 (QI Γ x (qctX10_isInWater M l)) M 0 [(0, aR Γ 229), (1, vI l)] []
  refine g_aload_n (n := 1) hx 0 (dq tX10_isInWater 0 rfl) rfl rfl ?_
  refine g_getR (n := 4) hx glX10_43 (sX10_12 (by decide)) (dq tX10_isInWater 1 rfl) rfl ?_
  refine g_iload_n (n := 5) hx 1 (dq tX10_isInWater 2 rfl) rfl rfl ?_
  refine g_iald (n := 6) (q := l.toNat) hx (aX10_12 (b := 229) (by decide)) (dq tX10_isInWater 3 rfl) rfl (by omega) (by omega) (by omega) rfl (fun h_1l h_1u => ?_)
  refine g_bipush (n := 8) hx (dq tX10_isInWater 4 rfl) rfl (by decide) ?_
  refine g_icmp_ge (n := 11) (t := 15) hx (dq tX10_isInWater 5 rfl) (by decide) rfl (zrI h_1l h_1u (by decide) (by decide)) ⟨by decide, by decide⟩ (fun c_2 => ?_) (fun c_2 => ?_)
  · refine g_iconst (n := 16) hx (dq tX10_isInWater 8 rfl) rfl ?_
    exact g_zret hx hr (dq tX10_isInWater 9 rfl) (by omega) ⟨rfl, (by omega), (by omega)⟩
  · refine g_iconst (n := 12) hx (dq tX10_isInWater 6 rfl) rfl ?_
    refine g_goto (n := 16) hx (dq tX10_isInWater 7 rfl) (by decide) ?_
    exact g_zret hx hr (dq tX10_isInWater 9 rfl) (by omega) ⟨rfl, (by omega), (by omega)⟩

abbrev qctX10_isAshore (M : zM) (l : Int) (z : Int) (M' : zM) : Prop := M = M' ∧ (z = 0 ∨ (z = 1 ∧ 20 ≤ M (229 + 12) l.toNat ∧ M (229 + 12) l.toNat ≤ 25)) ∧ (z = 0 → (M (229 + 12) l.toNat < 20 ∨ 25 < M (229 + 12) l.toNat))
set_option maxHeartbeats 4000000 in
set_option maxRecDepth 100000 in
theorem ctX10_isAshore (Γ : Gam) (M : zM) (l : Int) (hll : 0 ≤ l) (hlu : l ≤ 11)  : CtI Γ yX10_isAshore cX10_isAshore 2 (some .boolean) 1 25 [aR Γ 229, vI l] M (qctX10_isAshore M l) := by
  refine met_i (by decide) (Nat.le_of_ble_eq_true rfl) (fun x hx hr => ?_)
  show G Γ x 2 (QI Γ x (qctX10_isAshore M l)) M 0 [(0, aR Γ 229), (1, vI l)] []
  refine g_aload_n (n := 1) hx 0 (dq tX10_isAshore 0 rfl) rfl rfl ?_
  refine g_getR (n := 4) hx glX10_43 (sX10_12 (by decide)) (dq tX10_isAshore 1 rfl) rfl ?_
  refine g_iload_n (n := 5) hx 1 (dq tX10_isAshore 2 rfl) rfl rfl ?_
  refine g_iald (n := 6) (q := l.toNat) hx (aX10_12 (b := 229) (by decide)) (dq tX10_isAshore 3 rfl) rfl (by omega) (by omega) (by omega) rfl (fun h_1l h_1u => ?_)
  refine g_i2l (n := 7) hx (dq tX10_isAshore 4 rfl) rfl (zrI h_1l h_1u (by decide) (by decide)) ?_
  refine g_ldc2 (n := 10) (z := 20) hx wd_1648 (by decide) (dq tX10_isAshore 5 rfl) rfl ?_
  refine g_ldc2 (n := 13) (z := 25) hx wd_1649 (by decide) (dq tX10_isAshore 6 rfl) rfl ?_
  refine g_callSi (n := 16) (As := [vL (M (229 + 12) l.toNat), vL 20, vL 25]) (rest := []) hx (ctX10_in Γ M (M (229 + 12) l.toNat) (by omega) (by omega) 20 (by omega) (by omega) 25 (by omega) (by omega)) mlX10_191 (dq tX10_isAshore 7 rfl) rfl (Nat.le_of_ble_eq_true rfl) (Nat.le_of_ble_eq_true rfl) (Nat.le_of_ble_eq_true rfl) rfl (fun z_2 M_3 h_4 p_5 => ?_)
  obtain ⟨rfl, b_7, h_8⟩ := p_5
  exact g_zret hx hr (dq tX10_isAshore 8 rfl) (by omega) ⟨rfl, (by omega), (by omega)⟩

abbrev qctX10_isThere (M : zM) (l : Int) (z : Int) (M' : zM) : Prop := M = M' ∧ (z = 0 ∨ (z = 1 ∧ M (229 + 12) l.toNat < 40))
set_option maxHeartbeats 4000000 in
set_option maxRecDepth 100000 in
theorem ctX10_isThere (Γ : Gam) (M : zM) (l : Int) (hll : 0 ≤ l) (hlu : l ≤ 11)  : CtI Γ yX10_isThere cX10_isThere 2 (some .boolean) 0 0 [aR Γ 229, vI l] M (qctX10_isThere M l) := by
  refine met_i (by decide) (Nat.le_of_ble_eq_true rfl) (fun x hx hr => ?_)
  show G Γ x 2 (QI Γ x (qctX10_isThere M l)) M 0 [(0, aR Γ 229), (1, vI l)] []
  refine g_aload_n (n := 1) hx 0 (dq tX10_isThere 0 rfl) rfl rfl ?_
  refine g_getR (n := 4) hx glX10_43 (sX10_12 (by decide)) (dq tX10_isThere 1 rfl) rfl ?_
  refine g_iload_n (n := 5) hx 1 (dq tX10_isThere 2 rfl) rfl rfl ?_
  refine g_iald (n := 6) (q := l.toNat) hx (aX10_12 (b := 229) (by decide)) (dq tX10_isThere 3 rfl) rfl (by omega) (by omega) (by omega) rfl (fun h_1l h_1u => ?_)
  refine g_bipush (n := 8) hx (dq tX10_isThere 4 rfl) rfl (by decide) ?_
  refine g_icmp_ge (n := 11) (t := 15) hx (dq tX10_isThere 5 rfl) (by decide) rfl (zrI h_1l h_1u (by decide) (by decide)) ⟨by decide, by decide⟩ (fun c_2 => ?_) (fun c_2 => ?_)
  · refine g_iconst (n := 16) hx (dq tX10_isThere 8 rfl) rfl ?_
    exact g_zret hx hr (dq tX10_isThere 9 rfl) (by omega) ⟨rfl, (by omega)⟩
  · refine g_iconst (n := 12) hx (dq tX10_isThere 6 rfl) rfl ?_
    refine g_goto (n := 16) hx (dq tX10_isThere 7 rfl) (by decide) ?_
    exact g_zret hx hr (dq tX10_isThere 9 rfl) (by omega) ⟨rfl, (by omega)⟩

abbrev qctX10_logsAt (M : zM) (where_ : Int) (z : Int) (M' : zM) : Prop := M = M'
set_option maxHeartbeats 4000000 in
set_option maxRecDepth 100000 in
theorem ctX10_logsAt (Γ : Gam) (M : zM) (where_ : Int) (hwhere_l : (-2147483648) ≤ where_) (hwhere_u : where_ ≤ 2147483647)  : CtI Γ yX10_logsAt cX10_logsAt 4 (some .int) 0 0 [aR Γ 229, vI where_] M (qctX10_logsAt M where_) := by
  refine met_i (by decide) (Nat.le_of_ble_eq_true rfl) (fun x hx hr => ?_)
  show G Γ x 4 (QI Γ x (qctX10_logsAt M where_)) M 0 [(0, aR Γ 229), (1, vI where_)] []
  refine g_iconst (n := 1) hx (dq tX10_logsAt 0 rfl) rfl ?_
  refine g_istore_n (n := 2) (lv' := [(2, vI 0), (0, aR Γ 229), (1, vI where_)]) hx (dq tX10_logsAt 1 rfl) (by decide) rfl rfl ?_
  refine g_iconst (n := 3) hx (dq tX10_logsAt 2 rfl) rfl ?_
  refine g_istore_n (n := 4) (lv' := [(3, vI 0), (2, vI 0), (0, aR Γ 229), (1, vI where_)]) hx (dq tX10_logsAt 3 rfl) (by decide) rfl rfl ?_
  have L_3 : ∀ (n_ : Nat) (i_1 : Int) (i_2 : Int), (0 ≤ i_1) → (i_1 ≤ 12) → ((-2147483648) ≤ i_2) → (i_2 ≤ 2147483647) → ((12 - i_1).toNat = n_) → G Γ x 4 (QI Γ x (qctX10_logsAt M where_)) M 4 [(3, vI i_1), (2, vI i_2), (0, aR Γ 229), (1, vI where_)] [] := by
    intro n_
    induction n_ using Nat.strongRecOn with
    | _ n_ ih_4 =>
      intro i_1 i_2 h_7 h_8 h_9 h_10 hm_6
      refine g_iload_n (n := 5) hx 0 (dq tX10_logsAt 4 rfl) rfl rfl ?_
      refine g_aload_n (n := 6) hx 2 (dq tX10_logsAt 5 rfl) rfl rfl ?_
      refine g_getR (n := 9) hx glX10_9 (sX10_1 (by decide)) (dq tX10_logsAt 6 rfl) rfl ?_
      refine g_iconst (n := 10) hx (dq tX10_logsAt 7 rfl) rfl ?_
      refine g_ialdX (n := 11) (q := 3) hx (aX10_1 (b := 229) (by decide)) (dq tX10_logsAt 8 rfl) rfl (by decide) (by decide) (by decide) rfl (fun h_11l h_11u => ?_)
      have h_11l : 0 ≤ M (229 + 1) 3 := h_11l
      have h_11u : M (229 + 1) 3 ≤ 12 := h_11u
      refine g_icmp_ge (n := 14) (t := 40) hx (dq tX10_logsAt 9 rfl) (by decide) rfl ⟨by omega, by omega⟩ (zrI h_11l h_11u (by decide) (by decide)) (fun c_12 => ?_) (fun c_12 => ?_)
      · refine g_iload_n (n := 41) hx 1 (dq tX10_logsAt 26 rfl) rfl rfl ?_
        exact g_iret hx hr (dq tX10_logsAt 27 rfl) ⟨by omega, by omega⟩ rfl
      · refine g_iload_n (n := 15) hx 1 (dq tX10_logsAt 10 rfl) rfl rfl ?_
        refine g_aload_n (n := 16) hx 2 (dq tX10_logsAt 11 rfl) rfl rfl ?_
        refine g_getR (n := 19) hx glX10_43 (sX10_12 (by decide)) (dq tX10_logsAt 12 rfl) rfl ?_
        refine g_iload_n (n := 20) hx 0 (dq tX10_logsAt 13 rfl) rfl rfl ?_
        refine g_iald (n := 21) (q := i_1.toNat) hx (aX10_12 (b := 229) (by decide)) (dq tX10_logsAt 14 rfl) rfl (by omega) (by omega) (by omega) rfl (fun h_13l h_13u => ?_)
        refine g_iload_n (n := 22) hx 3 (dq tX10_logsAt 15 rfl) rfl rfl ?_
        refine g_icmp_ne (n := 25) (t := 31) hx (dq tX10_logsAt 16 rfl) (by decide) rfl (zrI h_13l h_13u (by decide) (by decide)) (zrI hwhere_l hwhere_u (by decide) (by decide)) (fun c_14 => ?_) (fun c_14 => ?_)
        · refine g_iconst (n := 32) hx (dq tX10_logsAt 21 rfl) rfl ?_
          refine g_ior (n := 33) hx (dq tX10_logsAt 22 rfl) rfl (fun z_15 h_16 h_17 => ?_)
          clear h_17
          refine g_istore_n (n := 34) (lv' := [(2, vI z_15), (3, vI i_1), (0, aR Γ 229), (1, vI where_)]) hx (dq tX10_logsAt 23 rfl) (by decide) rfl rfl ?_
          refine g_iinc (n := 37) (lv' := [(3, vI (i_1 + 1)), (2, vI z_15), (0, aR Γ 229), (1, vI where_)]) hx 1 (dq tX10_logsAt 24 rfl) rfl (by decide) rfl rfl ?_
          refine g_goto (n := 4) hx (dq tX10_logsAt 25 rfl) (by decide) ?_
          exact ih_4 _ (by omega) (i_1 + 1) z_15 (by omega) (by omega) (by omega) (by omega) rfl
        · refine g_iconst (n := 26) hx (dq tX10_logsAt 17 rfl) rfl ?_
          refine g_iload_n (n := 27) hx 0 (dq tX10_logsAt 18 rfl) rfl rfl ?_
          refine g_ishl1 (n := 28) hx (dq tX10_logsAt 19 rfl) rfl (by omega) (by omega) ?_
          refine g_nam (fun z_18 h_19 => ?_)
          have h_201 := pw1 (k := 11) (by omega) (by omega) h_19
          obtain ⟨h_202, h_203⟩ := h_201
          refine g_goto (n := 32) hx (dq tX10_logsAt 20 rfl) (by decide) ?_
          refine g_ior (n := 33) hx (dq tX10_logsAt 22 rfl) rfl (fun z_21 h_22 h_23 => ?_)
          clear h_23
          refine g_istore_n (n := 34) (lv' := [(2, vI z_21), (3, vI i_1), (0, aR Γ 229), (1, vI where_)]) hx (dq tX10_logsAt 23 rfl) (by decide) rfl rfl ?_
          refine g_iinc (n := 37) (lv' := [(3, vI (i_1 + 1)), (2, vI z_21), (0, aR Γ 229), (1, vI where_)]) hx 1 (dq tX10_logsAt 24 rfl) rfl (by decide) rfl rfl ?_
          refine g_goto (n := 4) hx (dq tX10_logsAt 25 rfl) (by decide) ?_
          exact ih_4 _ (by omega) (i_1 + 1) z_21 (by omega) (by omega) (by omega) (by omega) rfl
  exact L_3 _ 0 0 (by omega) (by omega) (by omega) (by omega) rfl

abbrev qctX10_roomAt (M : zM) (bend : Int) (z : Int) (M' : zM) : Prop := M = M'
set_option maxHeartbeats 4000000 in
set_option maxRecDepth 100000 in
theorem ctX10_roomAt (Γ : Gam) (M : zM) (bend : Int) (hbendl : 0 ≤ bend) (hbendu : bend ≤ 8)  : CtI Γ yX10_roomAt cX10_roomAt 3 (some .int) 1 23 [aR Γ 229, vI bend] M (qctX10_roomAt M bend) := by
  refine met_i (by decide) (Nat.le_of_ble_eq_true rfl) (fun x hx hr => ?_)
  show G Γ x 3 (QI Γ x (qctX10_roomAt M bend)) M 0 [(0, aR Γ 229), (1, vI bend)] []
  refine g_aload_n (n := 1) hx 0 (dq tX10_roomAt 0 rfl) rfl rfl ?_
  refine g_getR (n := 4) hx glX10_13 (sX10_2 (by decide)) (dq tX10_roomAt 1 rfl) rfl ?_
  refine g_iload_n (n := 5) hx 1 (dq tX10_roomAt 2 rfl) rfl rfl ?_
  refine g_iald (n := 6) (q := bend.toNat) hx (aX10_2 (b := 229) (by decide)) (dq tX10_roomAt 3 rfl) rfl (by omega) (by omega) (by omega) rfl (fun h_1l h_1u => ?_)
  refine g_aload_n (n := 7) hx 0 (dq tX10_roomAt 4 rfl) rfl rfl ?_
  refine g_getR (n := 10) hx glX10_16 (sX10_3 (by decide)) (dq tX10_roomAt 5 rfl) rfl ?_
  refine g_iload_n (n := 11) hx 1 (dq tX10_roomAt 6 rfl) rfl rfl ?_
  refine g_iald (n := 12) (q := bend.toNat) hx (aX10_3 (b := 229) (by decide)) (dq tX10_roomAt 7 rfl) rfl (by omega) (by omega) (by omega) rfl (fun h_2l h_2u => ?_)
  refine g_isub (n := 13) hx (dq tX10_roomAt 8 rfl) rfl ?_
  refine g_aload_n (n := 14) hx 0 (dq tX10_roomAt 9 rfl) rfl rfl ?_
  refine g_iload_n (n := 15) hx 1 (dq tX10_roomAt 10 rfl) rfl rfl ?_
  refine g_callVi (n := 18) (As := [vI bend]) (rest := [vI ((M (229 + 2) bend.toNat) - (M (229 + 3) bend.toNat))]) hx (ctX10_logsAt Γ M bend (by omega) (by omega)) mlX10_206 (obX10 (by decide)) (dq tX10_roomAt 11 rfl) rfl (Nat.le_of_ble_eq_true rfl) (Nat.le_of_ble_eq_true rfl) (Nat.le_of_ble_eq_true rfl) rfl (fun z_3 M_4 h_5 p_6 => ?_)
  obtain rfl := p_6
  refine g_callSi (n := 21) (As := [vI z_3]) (rest := [vI ((M (229 + 2) bend.toNat) - (M (229 + 3) bend.toNat))]) hx (ctX10_bits Γ M z_3 (by omega) (by omega)) mlX10_210 (dq tX10_roomAt 12 rfl) rfl (Nat.le_of_ble_eq_true rfl) (Nat.le_of_ble_eq_true rfl) (Nat.le_of_ble_eq_true rfl) rfl (fun z_8 M_9 h_10 p_11 => ?_)
  obtain rfl := p_11
  refine g_isub (n := 22) hx (dq tX10_roomAt 13 rfl) rfl ?_
  refine g_any (fun z_13 h_14 => ?_)
  refine g_istore_n (n := 23) (lv' := [(2, vI z_13), (0, aR Γ 229), (1, vI bend)]) hx (dq tX10_roomAt 14 rfl) (by decide) rfl rfl ?_
  refine g_iload_n (n := 24) hx 0 (dq tX10_roomAt 15 rfl) rfl rfl ?_
  refine g_if_le (n := 27) (t := 31) hx (dq tX10_roomAt 16 rfl) (by decide) rfl h_14 (fun c_15 => ?_) (fun c_15 => ?_)
  · refine g_iconst (n := 32) hx (dq tX10_roomAt 19 rfl) rfl ?_
    exact g_iret hx hr (dq tX10_roomAt 20 rfl) ⟨by decide, by decide⟩ rfl
  · refine g_iload_n (n := 28) hx 0 (dq tX10_roomAt 17 rfl) rfl rfl ?_
    refine g_goto (n := 32) hx (dq tX10_roomAt 18 rfl) (by decide) ?_
    exact g_iret hx hr (dq tX10_roomAt 20 rfl) h_14 rfl

abbrev qctX10_firstOf (M : zM) (l : Int) (z : Int) (M' : zM) : Prop := M = M'
set_option maxHeartbeats 4000000 in
set_option maxRecDepth 100000 in
theorem ctX10_firstOf (Γ : Gam) (M : zM) (l : Int) (hll : 0 ≤ l) (hlu : l ≤ 11)  : CtI Γ yX10_firstOf cX10_firstOf 2 (some .int) 0 0 [aR Γ 229, vI l] M (qctX10_firstOf M l) := by
  refine met_i (by decide) (Nat.le_of_ble_eq_true rfl) (fun x hx hr => ?_)
  show G Γ x 2 (QI Γ x (qctX10_firstOf M l)) M 0 [(0, aR Γ 229), (1, vI l)] []
  refine g_aload_n (n := 1) hx 0 (dq tX10_firstOf 0 rfl) rfl rfl ?_
  refine g_getR (n := 4) hx glX10_46 (sX10_13 (by decide)) (dq tX10_firstOf 1 rfl) rfl ?_
  refine g_iload_n (n := 5) hx 1 (dq tX10_firstOf 2 rfl) rfl rfl ?_
  refine g_iald (n := 6) (q := l.toNat) hx (aX10_13 (b := 229) (by decide)) (dq tX10_firstOf 3 rfl) rfl (by omega) (by omega) (by omega) rfl (fun h_1l h_1u => ?_)
  refine g_if_le (n := 9) (t := 21) hx (dq tX10_firstOf 4 rfl) (by decide) rfl (zrI h_1l h_1u (by decide) (by decide)) (fun c_2 => ?_) (fun c_2 => ?_)
  · refine g_iconst (n := 22) hx (dq tX10_firstOf 12 rfl) rfl ?_
    exact g_iret hx hr (dq tX10_firstOf 13 rfl) ⟨by decide, by decide⟩ rfl
  · refine g_aload_n (n := 10) hx 0 (dq tX10_firstOf 5 rfl) rfl rfl ?_
    refine g_getR (n := 13) hx glX10_61 (sX10_18 (by decide)) (dq tX10_firstOf 6 rfl) rfl ?_
    refine g_bipush (n := 15) hx (dq tX10_firstOf 7 rfl) rfl (by decide) ?_
    refine g_iload_n (n := 16) hx 1 (dq tX10_firstOf 8 rfl) rfl rfl ?_
    refine g_imul (n := 17) hx (dq tX10_firstOf 9 rfl) rfl ?_
    refine g_iald (n := 18) (q := (6 * l).toNat) hx (aX10_18 (b := 229) (by decide)) (dq tX10_firstOf 10 rfl) rfl (by omega) (by omega) (by omega) rfl (fun h_3l h_3u => ?_)
    refine g_goto (n := 22) hx (dq tX10_firstOf 11 rfl) (by decide) ?_
    exact g_iret hx hr (dq tX10_firstOf 13 rfl) (zrI h_3l h_3u (by decide) (by decide)) rfl

abbrev qctX10_lastOf (M : zM) (l : Int) (z : Int) (M' : zM) : Prop := M = M'
set_option maxHeartbeats 4000000 in
set_option maxRecDepth 100000 in
theorem ctX10_lastOf (Γ : Gam) (M : zM) (l : Int) (hll : 0 ≤ l) (hlu : l ≤ 11)  : CtI Γ yX10_lastOf cX10_lastOf 2 (some .int) 0 0 [aR Γ 229, vI l] M (qctX10_lastOf M l) := by
  refine met_i (by decide) (Nat.le_of_ble_eq_true rfl) (fun x hx hr => ?_)
  show G Γ x 2 (QI Γ x (qctX10_lastOf M l)) M 0 [(0, aR Γ 229), (1, vI l)] []
  refine g_aload_n (n := 1) hx 0 (dq tX10_lastOf 0 rfl) rfl rfl ?_
  refine g_getR (n := 4) hx glX10_46 (sX10_13 (by decide)) (dq tX10_lastOf 1 rfl) rfl ?_
  refine g_iload_n (n := 5) hx 1 (dq tX10_lastOf 2 rfl) rfl rfl ?_
  refine g_iald (n := 6) (q := l.toNat) hx (aX10_13 (b := 229) (by decide)) (dq tX10_lastOf 3 rfl) rfl (by omega) (by omega) (by omega) rfl (fun h_1l h_1u => ?_)
  refine g_if_le (n := 9) (t := 30) hx (dq tX10_lastOf 4 rfl) (by decide) rfl (zrI h_1l h_1u (by decide) (by decide)) (fun c_2 => ?_) (fun c_2 => ?_)
  · refine g_iconst (n := 31) hx (dq tX10_lastOf 19 rfl) rfl ?_
    exact g_iret hx hr (dq tX10_lastOf 20 rfl) ⟨by decide, by decide⟩ rfl
  · refine g_aload_n (n := 10) hx 0 (dq tX10_lastOf 5 rfl) rfl rfl ?_
    refine g_getR (n := 13) hx glX10_61 (sX10_18 (by decide)) (dq tX10_lastOf 6 rfl) rfl ?_
    refine g_bipush (n := 15) hx (dq tX10_lastOf 7 rfl) rfl (by decide) ?_
    refine g_iload_n (n := 16) hx 1 (dq tX10_lastOf 8 rfl) rfl rfl ?_
    refine g_imul (n := 17) hx (dq tX10_lastOf 9 rfl) rfl ?_
    refine g_aload_n (n := 18) hx 0 (dq tX10_lastOf 10 rfl) rfl rfl ?_
    refine g_getR (n := 21) hx glX10_46 (sX10_13 (by decide)) (dq tX10_lastOf 11 rfl) rfl ?_
    refine g_iload_n (n := 22) hx 1 (dq tX10_lastOf 12 rfl) rfl rfl ?_
    refine g_iald (n := 23) (q := l.toNat) hx (aX10_13 (b := 229) (by decide)) (dq tX10_lastOf 13 rfl) rfl (by omega) (by omega) (by omega) rfl (fun h_3l h_3u => ?_)
    refine g_iadd (n := 24) hx (dq tX10_lastOf 14 rfl) rfl ?_
    refine g_iconst (n := 25) hx (dq tX10_lastOf 15 rfl) rfl ?_
    refine g_isub (n := 26) hx (dq tX10_lastOf 16 rfl) rfl ?_
    refine g_iald (n := 27) (q := (((6 * l) + (M (229 + 13) l.toNat)) - 1).toNat) hx (aX10_18 (b := 229) (by decide)) (dq tX10_lastOf 17 rfl) rfl (by omega) (by omega) (by omega) rfl (fun h_4l h_4u => ?_)
    refine g_goto (n := 31) hx (dq tX10_lastOf 18 rfl) (by decide) ?_
    exact g_iret hx hr (dq tX10_lastOf 20 rfl) (zrI h_4l h_4u (by decide) (by decide)) rfl

abbrev qctX10_notchesOf (M : zM) (l : Int) (village : Int) (z : Int) (M' : zM) : Prop := M = M'
set_option maxHeartbeats 4000000 in
set_option maxRecDepth 100000 in
theorem ctX10_notchesOf (Γ : Gam) (M : zM) (l : Int) (hll : 0 ≤ l) (hlu : l ≤ 11) (village : Int) (hvillagel : (-2147483648) ≤ village) (hvillageu : village ≤ 2147483647)  : CtI Γ yX10_notchesOf cX10_notchesOf 5 (some .int) 0 0 [aR Γ 229, vI l, vI village] M (qctX10_notchesOf M l village) := by
  refine met_i (by decide) (Nat.le_of_ble_eq_true rfl) (fun x hx hr => ?_)
  show G Γ x 5 (QI Γ x (qctX10_notchesOf M l village)) M 0 [(0, aR Γ 229), (1, vI l), (2, vI village)] []
  refine g_iconst (n := 1) hx (dq tX10_notchesOf 0 rfl) rfl ?_
  refine g_istore_n (n := 2) (lv' := [(3, vI 0), (0, aR Γ 229), (1, vI l), (2, vI village)]) hx (dq tX10_notchesOf 1 rfl) (by decide) rfl rfl ?_
  refine g_iconst (n := 3) hx (dq tX10_notchesOf 2 rfl) rfl ?_
  refine g_istore (n := 5) (lv' := [(4, vI 0), (3, vI 0), (0, aR Γ 229), (1, vI l), (2, vI village)]) hx (dq tX10_notchesOf 3 rfl) (by decide) rfl rfl ?_
  have L_3 : ∀ (n_ : Nat) (i_1 : Int) (i_2 : Int), (0 ≤ i_1) → (i_1 ≤ 6) → ((-2147483648) ≤ i_2) → (i_2 ≤ 2147483647) → ((6 - i_1).toNat = n_) → G Γ x 5 (QI Γ x (qctX10_notchesOf M l village)) M 5 [(4, vI i_1), (3, vI i_2), (0, aR Γ 229), (1, vI l), (2, vI village)] [] := by
    intro n_
    induction n_ using Nat.strongRecOn with
    | _ n_ ih_4 =>
      intro i_1 i_2 h_7 h_8 h_9 h_10 hm_6
      refine g_iload (n := 7) hx 0 (dq tX10_notchesOf 4 rfl) rfl rfl ?_
      refine g_aload_n (n := 8) hx 2 (dq tX10_notchesOf 5 rfl) rfl rfl ?_
      refine g_getR (n := 11) hx glX10_46 (sX10_13 (by decide)) (dq tX10_notchesOf 6 rfl) rfl ?_
      refine g_iload_n (n := 12) hx 3 (dq tX10_notchesOf 7 rfl) rfl rfl ?_
      refine g_iald (n := 13) (q := l.toNat) hx (aX10_13 (b := 229) (by decide)) (dq tX10_notchesOf 8 rfl) rfl (by omega) (by omega) (by omega) rfl (fun h_11l h_11u => ?_)
      refine g_icmp_ge (n := 16) (t := 46) hx (dq tX10_notchesOf 9 rfl) (by decide) rfl ⟨by omega, by omega⟩ (zrI h_11l h_11u (by decide) (by decide)) (fun c_12 => ?_) (fun c_12 => ?_)
      · refine g_iload_n (n := 47) hx 1 (dq tX10_notchesOf 28 rfl) rfl rfl ?_
        exact g_iret hx hr (dq tX10_notchesOf 29 rfl) ⟨by omega, by omega⟩ rfl
      · refine g_iload_n (n := 17) hx 1 (dq tX10_notchesOf 10 rfl) rfl rfl ?_
        refine g_aload_n (n := 18) hx 2 (dq tX10_notchesOf 11 rfl) rfl rfl ?_
        refine g_getR (n := 21) hx glX10_61 (sX10_18 (by decide)) (dq tX10_notchesOf 12 rfl) rfl ?_
        refine g_bipush (n := 23) hx (dq tX10_notchesOf 13 rfl) rfl (by decide) ?_
        refine g_iload_n (n := 24) hx 3 (dq tX10_notchesOf 14 rfl) rfl rfl ?_
        refine g_imul (n := 25) hx (dq tX10_notchesOf 15 rfl) rfl ?_
        refine g_iload (n := 27) hx 0 (dq tX10_notchesOf 16 rfl) rfl rfl ?_
        refine g_iadd (n := 28) hx (dq tX10_notchesOf 17 rfl) rfl ?_
        refine g_iald (n := 29) (q := ((6 * l) + i_1).toNat) hx (aX10_18 (b := 229) (by decide)) (dq tX10_notchesOf 18 rfl) rfl (by omega) (by omega) (by omega) rfl (fun h_13l h_13u => ?_)
        refine g_iload_n (n := 30) hx 4 (dq tX10_notchesOf 19 rfl) rfl rfl ?_
        refine g_icmp_ne (n := 33) (t := 37) hx (dq tX10_notchesOf 20 rfl) (by decide) rfl (zrI h_13l h_13u (by decide) (by decide)) (zrI hvillagel hvillageu (by decide) (by decide)) (fun c_14 => ?_) (fun c_14 => ?_)
        · refine g_iconst (n := 38) hx (dq tX10_notchesOf 23 rfl) rfl ?_
          refine g_iadd (n := 39) hx (dq tX10_notchesOf 24 rfl) rfl ?_
          refine g_istore_n (n := 40) (lv' := [(3, vI (i_2 + 0)), (4, vI i_1), (0, aR Γ 229), (1, vI l), (2, vI village)]) hx (dq tX10_notchesOf 25 rfl) (by decide) rfl rfl ?_
          refine g_iinc (n := 43) (lv' := [(4, vI (i_1 + 1)), (3, vI (i_2 + 0)), (0, aR Γ 229), (1, vI l), (2, vI village)]) hx 1 (dq tX10_notchesOf 26 rfl) rfl (by decide) rfl rfl ?_
          refine g_goto (n := 5) hx (dq tX10_notchesOf 27 rfl) (by decide) ?_
          exact ih_4 _ (by omega) (i_1 + 1) (i_2 + 0) (by omega) (by omega) (by omega) (by omega) rfl
        · refine g_iconst (n := 34) hx (dq tX10_notchesOf 21 rfl) rfl ?_
          refine g_goto (n := 38) hx (dq tX10_notchesOf 22 rfl) (by decide) ?_
          refine g_iadd (n := 39) hx (dq tX10_notchesOf 24 rfl) rfl ?_
          refine g_any (fun z_15 h_16 => ?_)
          refine g_istore_n (n := 40) (lv' := [(3, vI z_15), (4, vI i_1), (0, aR Γ 229), (1, vI l), (2, vI village)]) hx (dq tX10_notchesOf 25 rfl) (by decide) rfl rfl ?_
          refine g_iinc (n := 43) (lv' := [(4, vI (i_1 + 1)), (3, vI z_15), (0, aR Γ 229), (1, vI l), (2, vI village)]) hx 1 (dq tX10_notchesOf 26 rfl) rfl (by decide) rfl rfl ?_
          refine g_goto (n := 5) hx (dq tX10_notchesOf 27 rfl) (by decide) ?_
          exact ih_4 _ (by omega) (i_1 + 1) z_15 (by omega) (by omega) (by omega) (by omega) rfl
  exact L_3 _ 0 0 (by omega) (by omega) (by omega) (by omega) rfl

abbrev qctX10_orNine (M : zM) (v : Int) (z : Int) (M' : zM) : Prop := M = M'
set_option maxHeartbeats 4000000 in
set_option maxRecDepth 100000 in
theorem ctX10_orNine (Γ : Gam) (M : zM) (v : Int) (hvl : (-2147483648) ≤ v) (hvu : v ≤ 2147483647)  : CtI Γ yX10_orNine cX10_orNine 1 (some .int) 0 0 [vI v] M (qctX10_orNine M v) := by
  refine met_i (by decide) (Nat.le_of_ble_eq_true rfl) (fun x hx hr => ?_)
  show G Γ x 1 (QI Γ x (qctX10_orNine M v)) M 0 [(0, vI v)] []
  refine g_iload_n (n := 1) hx 0 (dq tX10_orNine 0 rfl) rfl rfl ?_
  refine g_iconst (n := 2) hx (dq tX10_orNine 1 rfl) rfl ?_
  refine g_icmp_ne (n := 5) (t := 10) hx (dq tX10_orNine 2 rfl) (by decide) rfl (zrI hvl hvu (by decide) (by decide)) ⟨by decide, by decide⟩ (fun c_1 => ?_) (fun c_1 => ?_)
  · refine g_iload_n (n := 11) hx 0 (dq tX10_orNine 5 rfl) rfl rfl ?_
    exact g_iret hx hr (dq tX10_orNine 6 rfl) (zrI hvl hvu (by decide) (by decide)) rfl
  · refine g_bipush (n := 7) hx (dq tX10_orNine 3 rfl) rfl (by decide) ?_
    refine g_goto (n := 11) hx (dq tX10_orNine 4 rfl) (by decide) ?_
    exact g_iret hx hr (dq tX10_orNine 6 rfl) ⟨by decide, by decide⟩ rfl

abbrev qctX10_truth (M : zM) (v : Int) (z : Int64) (M' : zM) : Prop := M = M'
set_option maxHeartbeats 4000000 in
set_option maxRecDepth 100000 in
theorem ctX10_truth (Γ : Gam) (M : zM) (v : Int) (hvl : 0 ≤ v) (hvu : v ≤ 1)  : CtL Γ yX10_truth cX10_truth 1 (some .long) 0 0 [vI v] M (qctX10_truth M v) := by
  refine met_l (by decide) (Nat.le_of_ble_eq_true rfl) (fun x hx hr => ?_)
  show G Γ x 1 (QL Γ x (qctX10_truth M v)) M 0 [(0, vI v)] []
  refine g_iload_n (n := 1) hx 0 (dq tX10_truth 0 rfl) rfl rfl ?_
  refine g_if_eq (n := 4) (t := 8) hx (dq tX10_truth 1 rfl) (by decide) rfl (zrI hvl hvu (by decide) (by decide)) (fun c_1 => ?_) (fun c_1 => ?_)
  · refine g_lconst (n := 9) (z := 0) hx (dq tX10_truth 4 rfl) rfl (by decide) ?_
    exact g_lret (v := Int64.ofInt 0) hx hr (dq tX10_truth 5 rfl) rfl
  · refine g_lconst (n := 5) (z := 1) hx (dq tX10_truth 2 rfl) rfl (by decide) ?_
    refine g_goto (n := 9) hx (dq tX10_truth 3 rfl) (by decide) ?_
    exact g_lret (v := Int64.ofInt 1) hx hr (dq tX10_truth 5 rfl) rfl

abbrev qctX10_both (M : zM) (k : Int) (a : Int64) (b_ : Int64) (z : Int64) (M' : zM) : Prop := M = M'
set_option maxHeartbeats 4000000 in
set_option maxRecDepth 100000 in
theorem ctX10_both (Γ : Gam) (M : zM) (k : Int) (hkl : (-2147483648) ≤ k) (hku : k ≤ 2147483647) (a : Int64) (b_ : Int64)  : CtL Γ yX10_both cX10_both 5 (some .long) 1 20 [vI k, .long a, .long b_] M (qctX10_both M k a b_) := by
  refine met_l (by decide) (Nat.le_of_ble_eq_true rfl) (fun x hx hr => ?_)
  show G Γ x 5 (QL Γ x (qctX10_both M k a b_)) M 0 [(0, vI k), (1, .long a), (3, .long b_)] []
  refine g_iload_n (n := 1) hx 0 (dq tX10_both 0 rfl) rfl rfl ?_
  by_cases c_1 : k = 2
  · refine g_swI (t := 72) hx (dq tX10_both 1 rfl) c_1 (by decide) (by decide) rfl (by decide) ?_
    refine g_lload_n (n := 73) hx 1 (dq tX10_both 2 rfl) rfl rfl ?_
    refine g_lload_n (n := 74) hx 2 (dq tX10_both 3 rfl) rfl rfl ?_
    refine g_ladd (n := 75) hx (dq tX10_both 4 rfl) rfl (fun w_2 => ?_)
    exact g_lret (v := w_2) hx hr (dq tX10_both 5 rfl) rfl
  by_cases c_3 : k = 3
  · refine g_swI (t := 76) hx (dq tX10_both 1 rfl) c_3 (by decide) (by decide) rfl (by decide) ?_
    refine g_lload_n (n := 77) hx 1 (dq tX10_both 6 rfl) rfl rfl ?_
    refine g_lload_n (n := 78) hx 2 (dq tX10_both 7 rfl) rfl rfl ?_
    refine g_lsub (n := 79) hx (dq tX10_both 8 rfl) rfl (fun w_4 => ?_)
    exact g_lret (v := w_4) hx hr (dq tX10_both 9 rfl) rfl
  by_cases c_5 : k = 4
  · refine g_swI (t := 112) hx (dq tX10_both 1 rfl) c_5 (by decide) (by decide) rfl (by decide) ?_
    refine g_lload_n (n := 113) hx 1 (dq tX10_both 34 rfl) rfl rfl ?_
    refine g_lload_n (n := 114) hx 2 (dq tX10_both 35 rfl) rfl rfl ?_
    refine g_lcmpU (n := 115) hx (dq tX10_both 36 rfl) rfl (fun z_6 h_71 h_72 h_73 h_74 => ?_)
    refine g_if_ge (n := 118) (t := 122) hx (dq tX10_both 37 rfl) (by decide) rfl ⟨by omega, by omega⟩ (fun c_8 => ?_) (fun c_8 => ?_)
    · refine g_iconst (n := 123) hx (dq tX10_both 40 rfl) rfl ?_
      refine g_callSl (n := 126) (As := [vI 0]) (rest := []) hx (ctX10_truth Γ M 0 (by decide) (by decide)) mlX10_440 (dq tX10_both 41 rfl) rfl (Nat.le_of_ble_eq_true rfl) (Nat.le_of_ble_eq_true rfl) (Nat.le_of_ble_eq_true rfl) rfl (fun z_9 M_10 p_12 => ?_)
      obtain rfl := p_12
      exact g_lret (v := z_9) hx hr (dq tX10_both 42 rfl) rfl
    · refine g_iconst (n := 119) hx (dq tX10_both 38 rfl) rfl ?_
      refine g_goto (n := 123) hx (dq tX10_both 39 rfl) (by decide) ?_
      refine g_callSl (n := 126) (As := [vI 1]) (rest := []) hx (ctX10_truth Γ M 1 (by decide) (by decide)) mlX10_440 (dq tX10_both 41 rfl) rfl (Nat.le_of_ble_eq_true rfl) (Nat.le_of_ble_eq_true rfl) (Nat.le_of_ble_eq_true rfl) rfl (fun z_14 M_15 p_17 => ?_)
      obtain rfl := p_17
      exact g_lret (v := z_14) hx hr (dq tX10_both 42 rfl) rfl
  by_cases c_19 : k = 5
  · refine g_swI (t := 127) hx (dq tX10_both 1 rfl) c_19 (by decide) (by decide) rfl (by decide) ?_
    refine g_lload_n (n := 128) hx 1 (dq tX10_both 43 rfl) rfl rfl ?_
    refine g_lload_n (n := 129) hx 2 (dq tX10_both 44 rfl) rfl rfl ?_
    refine g_lcmpU (n := 130) hx (dq tX10_both 45 rfl) rfl (fun z_20 h_211 h_212 h_213 h_214 => ?_)
    refine g_if_gt (n := 133) (t := 137) hx (dq tX10_both 46 rfl) (by decide) rfl ⟨by omega, by omega⟩ (fun c_22 => ?_) (fun c_22 => ?_)
    · refine g_iconst (n := 138) hx (dq tX10_both 49 rfl) rfl ?_
      refine g_callSl (n := 141) (As := [vI 0]) (rest := []) hx (ctX10_truth Γ M 0 (by decide) (by decide)) mlX10_440 (dq tX10_both 50 rfl) rfl (Nat.le_of_ble_eq_true rfl) (Nat.le_of_ble_eq_true rfl) (Nat.le_of_ble_eq_true rfl) rfl (fun z_23 M_24 p_26 => ?_)
      obtain rfl := p_26
      exact g_lret (v := z_23) hx hr (dq tX10_both 51 rfl) rfl
    · refine g_iconst (n := 134) hx (dq tX10_both 47 rfl) rfl ?_
      refine g_goto (n := 138) hx (dq tX10_both 48 rfl) (by decide) ?_
      refine g_callSl (n := 141) (As := [vI 1]) (rest := []) hx (ctX10_truth Γ M 1 (by decide) (by decide)) mlX10_440 (dq tX10_both 50 rfl) rfl (Nat.le_of_ble_eq_true rfl) (Nat.le_of_ble_eq_true rfl) (Nat.le_of_ble_eq_true rfl) rfl (fun z_28 M_29 p_31 => ?_)
      obtain rfl := p_31
      exact g_lret (v := z_28) hx hr (dq tX10_both 51 rfl) rfl
  by_cases c_33 : k = 6
  · refine g_swI (t := 142) hx (dq tX10_both 1 rfl) c_33 (by decide) (by decide) rfl (by decide) ?_
    refine g_lload_n (n := 143) hx 1 (dq tX10_both 52 rfl) rfl rfl ?_
    refine g_lload_n (n := 144) hx 2 (dq tX10_both 53 rfl) rfl rfl ?_
    refine g_lcmpU (n := 145) hx (dq tX10_both 54 rfl) rfl (fun z_34 h_351 h_352 h_353 h_354 => ?_)
    refine g_if_ne (n := 148) (t := 152) hx (dq tX10_both 55 rfl) (by decide) rfl ⟨by omega, by omega⟩ (fun c_36 => ?_) (fun c_36 => ?_)
    · refine g_iconst (n := 153) hx (dq tX10_both 58 rfl) rfl ?_
      refine g_callSl (n := 156) (As := [vI 0]) (rest := []) hx (ctX10_truth Γ M 0 (by decide) (by decide)) mlX10_440 (dq tX10_both 59 rfl) rfl (Nat.le_of_ble_eq_true rfl) (Nat.le_of_ble_eq_true rfl) (Nat.le_of_ble_eq_true rfl) rfl (fun z_37 M_38 p_40 => ?_)
      obtain rfl := p_40
      exact g_lret (v := z_37) hx hr (dq tX10_both 60 rfl) rfl
    · refine g_iconst (n := 149) hx (dq tX10_both 56 rfl) rfl ?_
      refine g_goto (n := 153) hx (dq tX10_both 57 rfl) (by decide) ?_
      refine g_callSl (n := 156) (As := [vI 1]) (rest := []) hx (ctX10_truth Γ M 1 (by decide) (by decide)) mlX10_440 (dq tX10_both 59 rfl) rfl (Nat.le_of_ble_eq_true rfl) (Nat.le_of_ble_eq_true rfl) (Nat.le_of_ble_eq_true rfl) rfl (fun z_42 M_43 p_45 => ?_)
      obtain rfl := p_45
      exact g_lret (v := z_42) hx hr (dq tX10_both 60 rfl) rfl
  by_cases c_47 : k = 7
  · refine g_swI (t := 157) hx (dq tX10_both 1 rfl) c_47 (by decide) (by decide) rfl (by decide) ?_
    refine g_lload_n (n := 158) hx 1 (dq tX10_both 61 rfl) rfl rfl ?_
    refine g_lload_n (n := 159) hx 2 (dq tX10_both 62 rfl) rfl rfl ?_
    refine g_lcmpU (n := 160) hx (dq tX10_both 63 rfl) rfl (fun z_48 h_491 h_492 h_493 h_494 => ?_)
    refine g_if_lt (n := 163) (t := 167) hx (dq tX10_both 64 rfl) (by decide) rfl ⟨by omega, by omega⟩ (fun c_50 => ?_) (fun c_50 => ?_)
    · refine g_iconst (n := 168) hx (dq tX10_both 67 rfl) rfl ?_
      refine g_callSl (n := 171) (As := [vI 0]) (rest := []) hx (ctX10_truth Γ M 0 (by decide) (by decide)) mlX10_440 (dq tX10_both 68 rfl) rfl (Nat.le_of_ble_eq_true rfl) (Nat.le_of_ble_eq_true rfl) (Nat.le_of_ble_eq_true rfl) rfl (fun z_51 M_52 p_54 => ?_)
      obtain rfl := p_54
      exact g_lret (v := z_51) hx hr (dq tX10_both 69 rfl) rfl
    · refine g_iconst (n := 164) hx (dq tX10_both 65 rfl) rfl ?_
      refine g_goto (n := 168) hx (dq tX10_both 66 rfl) (by decide) ?_
      refine g_callSl (n := 171) (As := [vI 1]) (rest := []) hx (ctX10_truth Γ M 1 (by decide) (by decide)) mlX10_440 (dq tX10_both 68 rfl) rfl (Nat.le_of_ble_eq_true rfl) (Nat.le_of_ble_eq_true rfl) (Nat.le_of_ble_eq_true rfl) rfl (fun z_56 M_57 p_59 => ?_)
      obtain rfl := p_59
      exact g_lret (v := z_56) hx hr (dq tX10_both 69 rfl) rfl
  by_cases c_61 : k = 8
  · refine g_swI (t := 172) hx (dq tX10_both 1 rfl) c_61 (by decide) (by decide) rfl (by decide) ?_
    refine g_lload_n (n := 173) hx 1 (dq tX10_both 70 rfl) rfl rfl ?_
    refine g_lload_n (n := 174) hx 2 (dq tX10_both 71 rfl) rfl rfl ?_
    refine g_lcmpU (n := 175) hx (dq tX10_both 72 rfl) rfl (fun z_62 h_631 h_632 h_633 h_634 => ?_)
    refine g_if_le (n := 178) (t := 182) hx (dq tX10_both 73 rfl) (by decide) rfl ⟨by omega, by omega⟩ (fun c_64 => ?_) (fun c_64 => ?_)
    · refine g_iconst (n := 183) hx (dq tX10_both 76 rfl) rfl ?_
      refine g_callSl (n := 186) (As := [vI 0]) (rest := []) hx (ctX10_truth Γ M 0 (by decide) (by decide)) mlX10_440 (dq tX10_both 77 rfl) rfl (Nat.le_of_ble_eq_true rfl) (Nat.le_of_ble_eq_true rfl) (Nat.le_of_ble_eq_true rfl) rfl (fun z_65 M_66 p_68 => ?_)
      obtain rfl := p_68
      exact g_lret (v := z_65) hx hr (dq tX10_both 78 rfl) rfl
    · refine g_iconst (n := 179) hx (dq tX10_both 74 rfl) rfl ?_
      refine g_goto (n := 183) hx (dq tX10_both 75 rfl) (by decide) ?_
      refine g_callSl (n := 186) (As := [vI 1]) (rest := []) hx (ctX10_truth Γ M 1 (by decide) (by decide)) mlX10_440 (dq tX10_both 77 rfl) rfl (Nat.le_of_ble_eq_true rfl) (Nat.le_of_ble_eq_true rfl) (Nat.le_of_ble_eq_true rfl) rfl (fun z_70 M_71 p_73 => ?_)
      obtain rfl := p_73
      exact g_lret (v := z_70) hx hr (dq tX10_both 78 rfl) rfl
  by_cases c_75 : k = 9
  · refine g_swI (t := 191) hx (dq tX10_both 1 rfl) c_75 (by decide) (by decide) rfl (by decide) ?_
    refine g_lload_n (n := 192) hx 1 (dq tX10_both 83 rfl) rfl rfl ?_
    refine g_lload_n (n := 193) hx 2 (dq tX10_both 84 rfl) rfl rfl ?_
    refine g_lor (n := 194) hx (dq tX10_both 85 rfl) rfl (fun w_76 => ?_)
    exact g_lret (v := w_76) hx hr (dq tX10_both 86 rfl) rfl
  by_cases c_77 : k = 10
  · refine g_swI (t := 187) hx (dq tX10_both 1 rfl) c_77 (by decide) (by decide) rfl (by decide) ?_
    refine g_lload_n (n := 188) hx 1 (dq tX10_both 79 rfl) rfl rfl ?_
    refine g_lload_n (n := 189) hx 2 (dq tX10_both 80 rfl) rfl rfl ?_
    refine g_land (n := 190) hx (dq tX10_both 81 rfl) rfl (fun w_78 => ?_)
    exact g_lret (v := w_78) hx hr (dq tX10_both 82 rfl) rfl
  by_cases c_79 : k = 11
  · refine g_swI (t := 191) hx (dq tX10_both 1 rfl) c_79 (by decide) (by decide) rfl (by decide) ?_
    refine g_lload_n (n := 192) hx 1 (dq tX10_both 83 rfl) rfl rfl ?_
    refine g_lload_n (n := 193) hx 2 (dq tX10_both 84 rfl) rfl rfl ?_
    refine g_lor (n := 194) hx (dq tX10_both 85 rfl) rfl (fun w_80 => ?_)
    exact g_lret (v := w_80) hx hr (dq tX10_both 86 rfl) rfl
  by_cases c_81 : k = 12
  · refine g_swI (t := 191) hx (dq tX10_both 1 rfl) c_81 (by decide) (by decide) rfl (by decide) ?_
    refine g_lload_n (n := 192) hx 1 (dq tX10_both 83 rfl) rfl rfl ?_
    refine g_lload_n (n := 193) hx 2 (dq tX10_both 84 rfl) rfl rfl ?_
    refine g_lor (n := 194) hx (dq tX10_both 85 rfl) rfl (fun w_82 => ?_)
    exact g_lret (v := w_82) hx hr (dq tX10_both 86 rfl) rfl
  by_cases c_83 : k = 13
  · refine g_swI (t := 80) hx (dq tX10_both 1 rfl) c_83 (by decide) (by decide) rfl (by decide) ?_
    refine g_lload_n (n := 81) hx 1 (dq tX10_both 10 rfl) rfl rfl ?_
    refine g_lload_n (n := 82) hx 2 (dq tX10_both 11 rfl) rfl rfl ?_
    refine g_lmul (n := 83) hx (dq tX10_both 12 rfl) rfl (fun w_84 => ?_)
    exact g_lret (v := w_84) hx hr (dq tX10_both 13 rfl) rfl
  by_cases c_85 : k = 14
  · refine g_swI (t := 84) hx (dq tX10_both 1 rfl) c_85 (by decide) (by decide) rfl (by decide) ?_
    refine g_lload_n (n := 85) hx 2 (dq tX10_both 14 rfl) rfl rfl ?_
    refine g_lconst (n := 86) (z := 0) hx (dq tX10_both 15 rfl) rfl (by decide) ?_
    refine g_lcmpU (n := 87) hx (dq tX10_both 16 rfl) rfl (fun z_86 h_871 h_872 h_873 h_874 => ?_)
    refine g_if_ne (n := 90) (t := 94) hx (dq tX10_both 17 rfl) (by decide) rfl ⟨by omega, by omega⟩ (fun c_88 => ?_) (fun c_88 => ?_)
    · refine g_lload_n (n := 95) hx 1 (dq tX10_both 20 rfl) rfl rfl ?_
      refine g_lload_n (n := 96) hx 2 (dq tX10_both 21 rfl) rfl rfl ?_
      refine g_ldiv (n := 97) hx (dq tX10_both 22 rfl) rfl (fun e9 => c_88 (h_874 (e9.trans (by decide)))) (fun w_89 => ?_)
      exact g_lret (v := w_89) hx hr (dq tX10_both 23 rfl) rfl
    · refine g_lconst (n := 91) (z := 0) hx (dq tX10_both 18 rfl) rfl (by decide) ?_
      refine g_goto (n := 97) hx (dq tX10_both 19 rfl) (by decide) ?_
      exact g_lret (v := Int64.ofInt 0) hx hr (dq tX10_both 23 rfl) rfl
  by_cases c_90 : k = 15
  · refine g_swI (t := 98) hx (dq tX10_both 1 rfl) c_90 (by decide) (by decide) rfl (by decide) ?_
    refine g_lload_n (n := 99) hx 2 (dq tX10_both 24 rfl) rfl rfl ?_
    refine g_lconst (n := 100) (z := 0) hx (dq tX10_both 25 rfl) rfl (by decide) ?_
    refine g_lcmpU (n := 101) hx (dq tX10_both 26 rfl) rfl (fun z_91 h_921 h_922 h_923 h_924 => ?_)
    refine g_if_ne (n := 104) (t := 108) hx (dq tX10_both 27 rfl) (by decide) rfl ⟨by omega, by omega⟩ (fun c_93 => ?_) (fun c_93 => ?_)
    · refine g_lload_n (n := 109) hx 1 (dq tX10_both 30 rfl) rfl rfl ?_
      refine g_lload_n (n := 110) hx 2 (dq tX10_both 31 rfl) rfl rfl ?_
      refine g_lrem (n := 111) hx (dq tX10_both 32 rfl) rfl (fun e9 => c_93 (h_924 (e9.trans (by decide)))) (fun w_94 => ?_)
      exact g_lret (v := w_94) hx hr (dq tX10_both 33 rfl) rfl
    · refine g_lconst (n := 105) (z := 0) hx (dq tX10_both 28 rfl) rfl (by decide) ?_
      refine g_goto (n := 111) hx (dq tX10_both 29 rfl) (by decide) ?_
      exact g_lret (v := Int64.ofInt 0) hx hr (dq tX10_both 33 rfl) rfl
  refine g_swO (t := 191) hx (dq tX10_both 1 rfl) (zrI hkl hku (by decide) (by decide)) (by omega) (by decide) ?_
  refine g_lload_n (n := 192) hx 1 (dq tX10_both 83 rfl) rfl rfl ?_
  refine g_lload_n (n := 193) hx 2 (dq tX10_both 84 rfl) rfl rfl ?_
  refine g_lor (n := 194) hx (dq tX10_both 85 rfl) rfl (fun w_95 => ?_)
  exact g_lret (v := w_95) hx hr (dq tX10_both 86 rfl) rfl

abbrev qctX10_netOf (M : zM) (v : Int) (z : Int) (M' : zM) : Prop := M = M'
set_option maxHeartbeats 4000000 in
set_option maxRecDepth 100000 in
theorem ctX10_netOf (Γ : Gam) (M : zM) (v : Int) (hvl : 0 ≤ v) (hvu : v ≤ 5)  : CtI Γ yX10_netOf cX10_netOf 4 (some .int) 0 0 [aR Γ 229, vI v] M (qctX10_netOf M v) := by
  refine met_i (by decide) (Nat.le_of_ble_eq_true rfl) (fun x hx hr => ?_)
  show G Γ x 4 (QI Γ x (qctX10_netOf M v)) M 0 [(0, aR Γ 229), (1, vI v)] []
  refine g_iconst (n := 1) hx (dq tX10_netOf 0 rfl) rfl ?_
  refine g_istore_n (n := 2) (lv' := [(2, vI 0), (0, aR Γ 229), (1, vI v)]) hx (dq tX10_netOf 1 rfl) (by decide) rfl rfl ?_
  refine g_iconst (n := 3) hx (dq tX10_netOf 2 rfl) rfl ?_
  refine g_istore_n (n := 4) (lv' := [(3, vI 0), (2, vI 0), (0, aR Γ 229), (1, vI v)]) hx (dq tX10_netOf 3 rfl) (by decide) rfl rfl ?_
  have L_3 : ∀ (n_ : Nat) (i_1 : Int) (i_2 : Int), (0 ≤ i_1) → (i_1 ≤ 6) → ((-2147483648) ≤ i_2) → (i_2 ≤ 2147483647) → ((6 - i_1).toNat = n_) → G Γ x 4 (QI Γ x (qctX10_netOf M v)) M 4 [(3, vI i_1), (2, vI i_2), (0, aR Γ 229), (1, vI v)] [] := by
    intro n_
    induction n_ using Nat.strongRecOn with
    | _ n_ ih_4 =>
      intro i_1 i_2 h_7 h_8 h_9 h_10 hm_6
      refine g_iload_n (n := 5) hx 0 (dq tX10_netOf 4 rfl) rfl rfl ?_
      refine g_aload_n (n := 6) hx 2 (dq tX10_netOf 5 rfl) rfl rfl ?_
      refine g_getR (n := 9) hx glX10_9 (sX10_1 (by decide)) (dq tX10_netOf 6 rfl) rfl ?_
      refine g_iconst (n := 10) hx (dq tX10_netOf 7 rfl) rfl ?_
      refine g_ialdX (n := 11) (q := 1) hx (aX10_1 (b := 229) (by decide)) (dq tX10_netOf 8 rfl) rfl (by decide) (by decide) (by decide) rfl (fun h_11l h_11u => ?_)
      have h_11l : 0 ≤ M (229 + 1) 1 := h_11l
      have h_11u : M (229 + 1) 1 ≤ 6 := h_11u
      refine g_icmp_ge (n := 14) (t := 46) hx (dq tX10_netOf 9 rfl) (by decide) rfl ⟨by omega, by omega⟩ (zrI h_11l h_11u (by decide) (by decide)) (fun c_12 => ?_) (fun c_12 => ?_)
      · refine g_iload_n (n := 47) hx 1 (dq tX10_netOf 32 rfl) rfl rfl ?_
        exact g_iret hx hr (dq tX10_netOf 33 rfl) ⟨by omega, by omega⟩ rfl
      · refine g_iload_n (n := 15) hx 1 (dq tX10_netOf 10 rfl) rfl rfl ?_
        refine g_aload_n (n := 16) hx 2 (dq tX10_netOf 11 rfl) rfl rfl ?_
        refine g_getR (n := 19) hx glX10_31 (sX10_8 (by decide)) (dq tX10_netOf 12 rfl) rfl ?_
        refine g_bipush (n := 21) hx (dq tX10_netOf 13 rfl) rfl (by decide) ?_
        refine g_iload_n (n := 22) hx 0 (dq tX10_netOf 14 rfl) rfl rfl ?_
        refine g_imul (n := 23) hx (dq tX10_netOf 15 rfl) rfl ?_
        refine g_iload_n (n := 24) hx 3 (dq tX10_netOf 16 rfl) rfl rfl ?_
        refine g_iadd (n := 25) hx (dq tX10_netOf 17 rfl) rfl ?_
        refine g_iald (n := 26) (q := ((6 * i_1) + v).toNat) hx (aX10_8 (b := 229) (by decide)) (dq tX10_netOf 18 rfl) rfl (by omega) (by omega) (by omega) rfl (fun h_13l h_13u => ?_)
        refine g_aload_n (n := 27) hx 2 (dq tX10_netOf 19 rfl) rfl rfl ?_
        refine g_getR (n := 30) hx glX10_31 (sX10_8 (by decide)) (dq tX10_netOf 20 rfl) rfl ?_
        refine g_bipush (n := 32) hx (dq tX10_netOf 21 rfl) rfl (by decide) ?_
        refine g_iload_n (n := 33) hx 3 (dq tX10_netOf 22 rfl) rfl rfl ?_
        refine g_imul (n := 34) hx (dq tX10_netOf 23 rfl) rfl ?_
        refine g_iload_n (n := 35) hx 0 (dq tX10_netOf 24 rfl) rfl rfl ?_
        refine g_iadd (n := 36) hx (dq tX10_netOf 25 rfl) rfl ?_
        refine g_iald (n := 37) (q := ((6 * v) + i_1).toNat) hx (aX10_8 (b := 229) (by decide)) (dq tX10_netOf 26 rfl) rfl (by omega) (by omega) (by omega) rfl (fun h_14l h_14u => ?_)
        refine g_isub (n := 38) hx (dq tX10_netOf 27 rfl) rfl ?_
        refine g_iadd (n := 39) hx (dq tX10_netOf 28 rfl) rfl ?_
        refine g_any (fun z_15 h_16 => ?_)
        refine g_istore_n (n := 40) (lv' := [(2, vI z_15), (3, vI i_1), (0, aR Γ 229), (1, vI v)]) hx (dq tX10_netOf 29 rfl) (by decide) rfl rfl ?_
        refine g_iinc (n := 43) (lv' := [(3, vI (i_1 + 1)), (2, vI z_15), (0, aR Γ 229), (1, vI v)]) hx 1 (dq tX10_netOf 30 rfl) rfl (by decide) rfl rfl ?_
        refine g_goto (n := 4) hx (dq tX10_netOf 31 rfl) (by decide) ?_
        exact ih_4 _ (by omega) (i_1 + 1) z_15 (by omega) (by omega) (by omega) (by omega) rfl
  exact L_3 _ 0 0 (by omega) (by omega) (by omega) (by omega) rfl

abbrev qctX10_owes1 (M : zM) (village : Int) (owner : Int) (coins : Int) (M' : zM) : Prop := (∀ u_ v_, u_ ≠ 229 + 8 → M' u_ v_ = M u_ v_)
set_option maxHeartbeats 4000000 in
set_option maxRecDepth 100000 in
theorem ctX10_owes1 (Γ : Gam) (M : zM) (village : Int) (hvillagel : 0 ≤ village) (hvillageu : village ≤ 5) (owner : Int) (hownerl : (-1) ≤ owner) (howneru : owner ≤ 5) (coins : Int) (hcoinsl : (-2147483648) ≤ coins) (hcoinsu : coins ≤ 2147483647)  : CtV Γ yX10_owes1 cX10_owes1 4 none 0 0 [aR Γ 229, vI village, vI owner, vI coins] M (qctX10_owes1 M village owner coins) := by
  refine met_v (by decide) (Nat.le_of_ble_eq_true rfl) (fun x hx hr => ?_)
  show G Γ x 4 (QV Γ x (qctX10_owes1 M village owner coins)) M 0 [(0, aR Γ 229), (1, vI village), (2, vI owner), (3, vI coins)] []
  refine g_iload_n (n := 1) hx 2 (dq tX10_owes1 0 rfl) rfl rfl ?_
  refine g_iconst (n := 2) hx (dq tX10_owes1 1 rfl) rfl ?_
  refine g_icmp_eq (n := 5) (t := 25) hx (dq tX10_owes1 2 rfl) (by decide) rfl (zrI hownerl howneru (by decide) (by decide)) ⟨by decide, by decide⟩ (fun c_1 => ?_) (fun c_1 => ?_)
  · exact g_vret hx hr (dq tX10_owes1 18 rfl) (fun _ _ _ => rfl)
  · refine g_iload_n (n := 6) hx 2 (dq tX10_owes1 3 rfl) rfl rfl ?_
    refine g_iload_n (n := 7) hx 1 (dq tX10_owes1 4 rfl) rfl rfl ?_
    refine g_icmp_eq (n := 10) (t := 25) hx (dq tX10_owes1 5 rfl) (by decide) rfl (zrI hownerl howneru (by decide) (by decide)) (zrI hvillagel hvillageu (by decide) (by decide)) (fun c_2 => ?_) (fun c_2 => ?_)
    · exact g_vret hx hr (dq tX10_owes1 18 rfl) (fun _ _ _ => rfl)
    · refine g_aload_n (n := 11) hx 0 (dq tX10_owes1 6 rfl) rfl rfl ?_
      refine g_getR (n := 14) hx glX10_31 (sX10_8 (by decide)) (dq tX10_owes1 7 rfl) rfl ?_
      refine g_bipush (n := 16) hx (dq tX10_owes1 8 rfl) rfl (by decide) ?_
      refine g_iload_n (n := 17) hx 1 (dq tX10_owes1 9 rfl) rfl rfl ?_
      refine g_imul (n := 18) hx (dq tX10_owes1 10 rfl) rfl ?_
      refine g_iload_n (n := 19) hx 2 (dq tX10_owes1 11 rfl) rfl rfl ?_
      refine g_iadd (n := 20) hx (dq tX10_owes1 12 rfl) rfl ?_
      refine g_dup2 (n := 21) hx (dq tX10_owes1 13 rfl) rfl rfl rfl ?_
      refine g_iald (n := 22) (q := ((6 * village) + owner).toNat) hx (aX10_8 (b := 229) (by decide)) (dq tX10_owes1 14 rfl) rfl (by omega) (by omega) (by omega) rfl (fun h_3l h_3u => ?_)
      refine g_iload_n (n := 23) hx 3 (dq tX10_owes1 15 rfl) rfl rfl ?_
      refine g_iadd (n := 24) hx (dq tX10_owes1 16 rfl) rfl ?_
      refine g_any (fun z_4 h_5 => ?_)
      refine g_iast (n := 25) (q := ((6 * village) + owner).toNat) hx (aX10_8 (b := 229) (by decide)) (dq tX10_owes1 17 rfl) rfl (by omega) (by omega) (by omega) rfl (by omega) (by omega) (fun M_6 m_7e m_7 => ?_)
      exact g_vret hx hr (dq tX10_owes1 18 rfl) (fun u_ v_ huv_ => (m_7 u_ v_ (by omega)))

abbrev qctX10_countOf (M : zM) (low : Int) (high : Int) (z : Int) (M' : zM) : Prop := M = M'
set_option maxHeartbeats 4000000 in
set_option maxRecDepth 100000 in
theorem ctX10_countOf (Γ : Gam) (M : zM) (low : Int) (hlowl : (-2147483648) ≤ low) (hlowu : low ≤ 2147483647) (high : Int) (hhighl : (-2147483648) ≤ high) (hhighu : high ≤ 2147483647)  : CtI Γ yX10_countOf cX10_countOf 5 (some .int) 1 25 [aR Γ 229, vI low, vI high] M (qctX10_countOf M low high) := by
  refine met_i (by decide) (Nat.le_of_ble_eq_true rfl) (fun x hx hr => ?_)
  show G Γ x 5 (QI Γ x (qctX10_countOf M low high)) M 0 [(0, aR Γ 229), (1, vI low), (2, vI high)] []
  refine g_iconst (n := 1) hx (dq tX10_countOf 0 rfl) rfl ?_
  refine g_istore_n (n := 2) (lv' := [(3, vI 0), (0, aR Γ 229), (1, vI low), (2, vI high)]) hx (dq tX10_countOf 1 rfl) (by decide) rfl rfl ?_
  refine g_iconst (n := 3) hx (dq tX10_countOf 2 rfl) rfl ?_
  refine g_istore (n := 5) (lv' := [(4, vI 0), (3, vI 0), (0, aR Γ 229), (1, vI low), (2, vI high)]) hx (dq tX10_countOf 3 rfl) (by decide) rfl rfl ?_
  have L_3 : ∀ (n_ : Nat) (i_1 : Int) (i_2 : Int), (0 ≤ i_1) → (i_1 ≤ 12) → ((-2147483648) ≤ i_2) → (i_2 ≤ 2147483647) → ((12 - i_1).toNat = n_) → G Γ x 5 (QI Γ x (qctX10_countOf M low high)) M 5 [(4, vI i_1), (3, vI i_2), (0, aR Γ 229), (1, vI low), (2, vI high)] [] := by
    intro n_
    induction n_ using Nat.strongRecOn with
    | _ n_ ih_4 =>
      intro i_1 i_2 h_7 h_8 h_9 h_10 hm_6
      refine g_iload (n := 7) hx 0 (dq tX10_countOf 4 rfl) rfl rfl ?_
      refine g_aload_n (n := 8) hx 2 (dq tX10_countOf 5 rfl) rfl rfl ?_
      refine g_getR (n := 11) hx glX10_9 (sX10_1 (by decide)) (dq tX10_countOf 6 rfl) rfl ?_
      refine g_iconst (n := 12) hx (dq tX10_countOf 7 rfl) rfl ?_
      refine g_ialdX (n := 13) (q := 3) hx (aX10_1 (b := 229) (by decide)) (dq tX10_countOf 8 rfl) rfl (by decide) (by decide) (by decide) rfl (fun h_11l h_11u => ?_)
      have h_11l : 0 ≤ M (229 + 1) 3 := h_11l
      have h_11u : M (229 + 1) 3 ≤ 12 := h_11u
      refine g_icmp_ge (n := 16) (t := 48) hx (dq tX10_countOf 9 rfl) (by decide) rfl ⟨by omega, by omega⟩ (zrI h_11l h_11u (by decide) (by decide)) (fun c_12 => ?_) (fun c_12 => ?_)
      · refine g_iload_n (n := 49) hx 1 (dq tX10_countOf 29 rfl) rfl rfl ?_
        exact g_iret hx hr (dq tX10_countOf 30 rfl) ⟨by omega, by omega⟩ rfl
      · refine g_iload_n (n := 17) hx 1 (dq tX10_countOf 10 rfl) rfl rfl ?_
        refine g_aload_n (n := 18) hx 2 (dq tX10_countOf 11 rfl) rfl rfl ?_
        refine g_getR (n := 21) hx glX10_43 (sX10_12 (by decide)) (dq tX10_countOf 12 rfl) rfl ?_
        refine g_iload (n := 23) hx 0 (dq tX10_countOf 13 rfl) rfl rfl ?_
        refine g_iald (n := 24) (q := i_1.toNat) hx (aX10_12 (b := 229) (by decide)) (dq tX10_countOf 14 rfl) rfl (by omega) (by omega) (by omega) rfl (fun h_13l h_13u => ?_)
        refine g_i2l (n := 25) hx (dq tX10_countOf 15 rfl) rfl (zrI h_13l h_13u (by decide) (by decide)) ?_
        refine g_iload_n (n := 26) hx 3 (dq tX10_countOf 16 rfl) rfl rfl ?_
        refine g_i2l (n := 27) hx (dq tX10_countOf 17 rfl) rfl (zrI hlowl hlowu (by decide) (by decide)) ?_
        refine g_iload_n (n := 28) hx 4 (dq tX10_countOf 18 rfl) rfl rfl ?_
        refine g_i2l (n := 29) hx (dq tX10_countOf 19 rfl) rfl (zrI hhighl hhighu (by decide) (by decide)) ?_
        refine g_callSi (n := 32) (As := [vL (M (229 + 12) i_1.toNat), vL low, vL high]) (rest := [vI i_2]) hx (ctX10_in Γ M (M (229 + 12) i_1.toNat) (by omega) (by omega) low (by omega) (by omega) high (by omega) (by omega)) mlX10_191 (dq tX10_countOf 20 rfl) rfl (Nat.le_of_ble_eq_true rfl) (Nat.le_of_ble_eq_true rfl) (Nat.le_of_ble_eq_true rfl) rfl (fun z_14 M_15 h_16 p_17 => ?_)
        obtain ⟨rfl, b_19, h_20⟩ := p_17
        refine g_if_eq (n := 35) (t := 39) hx (dq tX10_countOf 21 rfl) (by decide) rfl h_16 (fun c_23 => ?_) (fun c_23 => ?_)
        · clear b_19
          refine g_iconst (n := 40) hx (dq tX10_countOf 24 rfl) rfl ?_
          refine g_iadd (n := 41) hx (dq tX10_countOf 25 rfl) rfl ?_
          refine g_istore_n (n := 42) (lv' := [(3, vI (i_2 + 0)), (4, vI i_1), (0, aR Γ 229), (1, vI low), (2, vI high)]) hx (dq tX10_countOf 26 rfl) (by decide) rfl rfl ?_
          refine g_iinc (n := 45) (lv' := [(4, vI (i_1 + 1)), (3, vI (i_2 + 0)), (0, aR Γ 229), (1, vI low), (2, vI high)]) hx 1 (dq tX10_countOf 27 rfl) rfl (by decide) rfl rfl ?_
          refine g_goto (n := 5) hx (dq tX10_countOf 28 rfl) (by decide) ?_
          exact ih_4 _ (by omega) (i_1 + 1) (i_2 + 0) (by omega) (by omega) (by omega) (by omega) rfl
        · have b_19 := b_19.resolve_left c_23
          obtain ⟨-, h_21, h_22⟩ := b_19
          refine g_iconst (n := 36) hx (dq tX10_countOf 22 rfl) rfl ?_
          refine g_goto (n := 40) hx (dq tX10_countOf 23 rfl) (by decide) ?_
          refine g_iadd (n := 41) hx (dq tX10_countOf 25 rfl) rfl ?_
          refine g_any (fun z_24 h_25 => ?_)
          refine g_istore_n (n := 42) (lv' := [(3, vI z_24), (4, vI i_1), (0, aR Γ 229), (1, vI low), (2, vI high)]) hx (dq tX10_countOf 26 rfl) (by decide) rfl rfl ?_
          refine g_iinc (n := 45) (lv' := [(4, vI (i_1 + 1)), (3, vI z_24), (0, aR Γ 229), (1, vI low), (2, vI high)]) hx 1 (dq tX10_countOf 27 rfl) rfl (by decide) rfl rfl ?_
          refine g_goto (n := 5) hx (dq tX10_countOf 28 rfl) (by decide) ?_
          exact ih_4 _ (by omega) (i_1 + 1) z_24 (by omega) (by omega) (by omega) (by omega) rfl
  exact L_3 _ 0 0 (by omega) (by omega) (by omega) (by omega) rfl

abbrev qctX10_counted1 (M : zM) (what : Int) (z : Int) (M' : zM) : Prop := M = M'
set_option maxHeartbeats 4000000 in
set_option maxRecDepth 100000 in
theorem ctX10_counted1 (Γ : Gam) (M : zM) (what : Int) (hwhatl : (-2147483648) ≤ what) (hwhatu : what ≤ 2147483647)  : CtI Γ yX10_counted1 cX10_counted1 2 (some .int) 0 0 [aR Γ 229, vI what] M (qctX10_counted1 M what) := by
  refine met_i (by decide) (Nat.le_of_ble_eq_true rfl) (fun x hx hr => ?_)
  show G Γ x 2 (QI Γ x (qctX10_counted1 M what)) M 0 [(0, aR Γ 229), (1, vI what)] []
  refine g_iload_n (n := 1) hx 1 (dq tX10_counted1 0 rfl) rfl rfl ?_
  by_cases c_1 : what = 0
  · refine g_swI (t := 36) hx (dq tX10_counted1 1 rfl) c_1 (by decide) (by decide) rfl (by decide) ?_
    refine g_aload_n (n := 37) hx 0 (dq tX10_counted1 2 rfl) rfl rfl ?_
    refine g_getI (n := 40) hx glX10_525 (sX10_61 (by decide)) (dq tX10_counted1 3 rfl) rfl (fun h_2l h_2u => ?_)
    exact g_iret hx hr (dq tX10_counted1 4 rfl) (zrI h_2l h_2u (by decide) (by decide)) rfl
  by_cases c_3 : what = 1
  · refine g_swI (t := 41) hx (dq tX10_counted1 1 rfl) c_3 (by decide) (by decide) rfl (by decide) ?_
    refine g_aload_n (n := 42) hx 0 (dq tX10_counted1 5 rfl) rfl rfl ?_
    refine g_getI (n := 45) hx glX10_528 (sX10_62 (by decide)) (dq tX10_counted1 6 rfl) rfl (fun h_4l h_4u => ?_)
    exact g_iret hx hr (dq tX10_counted1 7 rfl) (zrI h_4l h_4u (by decide) (by decide)) rfl
  by_cases c_5 : what = 2
  · refine g_swI (t := 46) hx (dq tX10_counted1 1 rfl) c_5 (by decide) (by decide) rfl (by decide) ?_
    refine g_aload_n (n := 47) hx 0 (dq tX10_counted1 8 rfl) rfl rfl ?_
    refine g_getI (n := 50) hx glX10_531 (sX10_63 (by decide)) (dq tX10_counted1 9 rfl) rfl (fun h_6l h_6u => ?_)
    exact g_iret hx hr (dq tX10_counted1 10 rfl) (zrI h_6l h_6u (by decide) (by decide)) rfl
  by_cases c_7 : what = 3
  · refine g_swI (t := 51) hx (dq tX10_counted1 1 rfl) c_7 (by decide) (by decide) rfl (by decide) ?_
    refine g_aload_n (n := 52) hx 0 (dq tX10_counted1 11 rfl) rfl rfl ?_
    refine g_getI (n := 55) hx glX10_534 (sX10_64 (by decide)) (dq tX10_counted1 12 rfl) rfl (fun h_8l h_8u => ?_)
    exact g_iret hx hr (dq tX10_counted1 13 rfl) (zrI h_8l h_8u (by decide) (by decide)) rfl
  by_cases c_9 : what = 4
  · refine g_swI (t := 56) hx (dq tX10_counted1 1 rfl) c_9 (by decide) (by decide) rfl (by decide) ?_
    refine g_aload_n (n := 57) hx 0 (dq tX10_counted1 14 rfl) rfl rfl ?_
    refine g_getI (n := 60) hx glX10_537 (sX10_65 (by decide)) (dq tX10_counted1 15 rfl) rfl (fun h_10l h_10u => ?_)
    exact g_iret hx hr (dq tX10_counted1 16 rfl) (zrI h_10l h_10u (by decide) (by decide)) rfl
  refine g_swO (t := 61) hx (dq tX10_counted1 1 rfl) (zrI hwhatl hwhatu (by decide) (by decide)) (by omega) (by decide) ?_
  refine g_aload_n (n := 62) hx 0 (dq tX10_counted1 17 rfl) rfl rfl ?_
  refine g_getI (n := 65) hx glX10_540 (sX10_66 (by decide)) (dq tX10_counted1 18 rfl) rfl (fun h_11l h_11u => ?_)
  exact g_iret hx hr (dq tX10_counted1 19 rfl) (zrI h_11l h_11u (by decide) (by decide)) rfl

abbrev qctX10_forgetsCounts (M : zM)  (M' : zM) : Prop := (∀ u_ v_, (u_ ≠ 229 ∨ v_ ≠ 61) ∧ (u_ ≠ 229 ∨ v_ ≠ 62) ∧ (u_ ≠ 229 ∨ v_ ≠ 63) ∧ (u_ ≠ 229 ∨ v_ ≠ 64) ∧ (u_ ≠ 229 ∨ v_ ≠ 65) ∧ (u_ ≠ 229 ∨ v_ ≠ 66) → M' u_ v_ = M u_ v_)
set_option maxHeartbeats 4000000 in
set_option maxRecDepth 100000 in
theorem ctX10_forgetsCounts (Γ : Gam) (M : zM)   : CtV Γ yX10_forgetsCounts cX10_forgetsCounts 1 none 0 0 [aR Γ 229] M (qctX10_forgetsCounts M) := by
  refine met_v (by decide) (Nat.le_of_ble_eq_true rfl) (fun x hx hr => ?_)
  show G Γ x 1 (QV Γ x (qctX10_forgetsCounts M)) M 0 [(0, aR Γ 229)] []
  refine g_aload_n (n := 1) hx 0 (dq tX10_forgetsCounts 0 rfl) rfl rfl ?_
  refine g_iconst (n := 2) hx (dq tX10_forgetsCounts 1 rfl) rfl ?_
  refine g_putI (n := 5) hx plX10_525 (sX10_61 (by decide)) (dq tX10_forgetsCounts 2 rfl) rfl (by omega) (by omega) (fun M_1 m_2e m_2 => ?_)
  refine g_aload_n (n := 6) hx 0 (dq tX10_forgetsCounts 3 rfl) rfl rfl ?_
  refine g_iconst (n := 7) hx (dq tX10_forgetsCounts 4 rfl) rfl ?_
  refine g_putI (n := 10) hx plX10_528 (sX10_62 (by decide)) (dq tX10_forgetsCounts 5 rfl) rfl (by omega) (by omega) (fun M_3 m_4e m_4 => ?_)
  refine g_aload_n (n := 11) hx 0 (dq tX10_forgetsCounts 6 rfl) rfl rfl ?_
  refine g_iconst (n := 12) hx (dq tX10_forgetsCounts 7 rfl) rfl ?_
  refine g_putI (n := 15) hx plX10_531 (sX10_63 (by decide)) (dq tX10_forgetsCounts 8 rfl) rfl (by omega) (by omega) (fun M_5 m_6e m_6 => ?_)
  refine g_aload_n (n := 16) hx 0 (dq tX10_forgetsCounts 9 rfl) rfl rfl ?_
  refine g_iconst (n := 17) hx (dq tX10_forgetsCounts 10 rfl) rfl ?_
  refine g_putI (n := 20) hx plX10_534 (sX10_64 (by decide)) (dq tX10_forgetsCounts 11 rfl) rfl (by omega) (by omega) (fun M_7 m_8e m_8 => ?_)
  refine g_aload_n (n := 21) hx 0 (dq tX10_forgetsCounts 12 rfl) rfl rfl ?_
  refine g_iconst (n := 22) hx (dq tX10_forgetsCounts 13 rfl) rfl ?_
  refine g_putI (n := 25) hx plX10_537 (sX10_65 (by decide)) (dq tX10_forgetsCounts 14 rfl) rfl (by omega) (by omega) (fun M_9 m_10e m_10 => ?_)
  refine g_aload_n (n := 26) hx 0 (dq tX10_forgetsCounts 15 rfl) rfl rfl ?_
  refine g_iconst (n := 27) hx (dq tX10_forgetsCounts 16 rfl) rfl ?_
  refine g_putI (n := 30) hx plX10_540 (sX10_66 (by decide)) (dq tX10_forgetsCounts 17 rfl) rfl (by omega) (by omega) (fun M_11 m_12e m_12 => ?_)
  exact g_vret hx hr (dq tX10_forgetsCounts 18 rfl) (fun u_ v_ huv_ => ((((((m_12 u_ v_ (by omega)).trans (m_10 u_ v_ (by omega))).trans (m_8 u_ v_ (by omega))).trans (m_6 u_ v_ (by omega))).trans (m_4 u_ v_ (by omega))).trans (m_2 u_ v_ (by omega))))

abbrev qctX10_stepOfKin (M : zM) (set : Int) (z : Int) (M' : zM) : Prop := M = M'
set_option maxHeartbeats 4000000 in
set_option maxRecDepth 100000 in
theorem ctX10_stepOfKin (Γ : Gam) (M : zM) (set : Int) (hsetl : (-2147483648) ≤ set) (hsetu : set ≤ 2147483647)  : CtI Γ yX10_stepOfKin cX10_stepOfKin 4 (some .int) 0 0 [aR Γ 229, vI set] M (qctX10_stepOfKin M set) := by
  refine met_i (by decide) (Nat.le_of_ble_eq_true rfl) (fun x hx hr => ?_)
  show G Γ x 4 (QI Γ x (qctX10_stepOfKin M set)) M 0 [(0, aR Γ 229), (1, vI set)] []
  refine g_iload_n (n := 1) hx 1 (dq tX10_stepOfKin 0 rfl) rfl rfl ?_
  refine g_istore_n (n := 2) (lv' := [(2, vI set), (0, aR Γ 229), (1, vI set)]) hx (dq tX10_stepOfKin 1 rfl) (by decide) rfl rfl ?_
  refine g_iconst (n := 3) hx (dq tX10_stepOfKin 2 rfl) rfl ?_
  refine g_istore_n (n := 4) (lv' := [(3, vI 0), (2, vI set), (0, aR Γ 229), (1, vI set)]) hx (dq tX10_stepOfKin 3 rfl) (by decide) rfl rfl ?_
  have L_3 : ∀ (n_ : Nat) (i_1 : Int) (i_2 : Int), (0 ≤ i_1) → (i_1 ≤ 20) → ((-2147483648) ≤ i_2) → (i_2 ≤ 2147483647) → ((20 - i_1).toNat = n_) → G Γ x 4 (QI Γ x (qctX10_stepOfKin M set)) M 4 [(3, vI i_1), (2, vI i_2), (0, aR Γ 229), (1, vI set)] [] := by
    intro n_
    induction n_ using Nat.strongRecOn with
    | _ n_ ih_4 =>
      intro i_1 i_2 h_7 h_8 h_9 h_10 hm_6
      refine g_iload_n (n := 5) hx 0 (dq tX10_stepOfKin 4 rfl) rfl rfl ?_
      refine g_aload_n (n := 6) hx 2 (dq tX10_stepOfKin 5 rfl) rfl rfl ?_
      refine g_getR (n := 9) hx glX10_9 (sX10_1 (by decide)) (dq tX10_stepOfKin 6 rfl) rfl ?_
      refine g_bipush (n := 11) hx (dq tX10_stepOfKin 7 rfl) rfl (by decide) ?_
      refine g_ialdX (n := 12) (q := 10) hx (aX10_1 (b := 229) (by decide)) (dq tX10_stepOfKin 8 rfl) rfl (by decide) (by decide) (by decide) rfl (fun h_11l h_11u => ?_)
      have h_11l : 0 ≤ M (229 + 1) 10 := h_11l
      have h_11u : M (229 + 1) 10 ≤ 20 := h_11u
      refine g_icmp_ge (n := 15) (t := 45) hx (dq tX10_stepOfKin 9 rfl) (by decide) rfl ⟨by omega, by omega⟩ (zrI h_11l h_11u (by decide) (by decide)) (fun c_12 => ?_) (fun c_12 => ?_)
      · refine g_iload_n (n := 46) hx 1 (dq tX10_stepOfKin 28 rfl) rfl rfl ?_
        exact g_iret hx hr (dq tX10_stepOfKin 29 rfl) ⟨by omega, by omega⟩ rfl
      · refine g_iload_n (n := 16) hx 1 (dq tX10_stepOfKin 10 rfl) rfl rfl ?_
        refine g_aload_n (n := 17) hx 2 (dq tX10_stepOfKin 11 rfl) rfl rfl ?_
        refine g_getR (n := 20) hx glX10_64 (sX10_19 (by decide)) (dq tX10_stepOfKin 12 rfl) rfl ?_
        refine g_iload_n (n := 21) hx 0 (dq tX10_stepOfKin 13 rfl) rfl rfl ?_
        refine g_iald (n := 22) (q := i_1.toNat) hx (aX10_19 (b := 229) (by decide)) (dq tX10_stepOfKin 14 rfl) rfl (by omega) (by omega) (by omega) rfl (fun h_13l h_13u => ?_)
        refine g_iload_n (n := 23) hx 3 (dq tX10_stepOfKin 15 rfl) rfl rfl ?_
        refine g_iand (n := 24) hx (dq tX10_stepOfKin 16 rfl) rfl (fun z_14 h_15 h_161 h_162 => ?_)
        clear h_161 h_162
        refine g_if_eq (n := 27) (t := 36) hx (dq tX10_stepOfKin 17 rfl) (by decide) rfl h_15 (fun c_17 => ?_) (fun c_17 => ?_)
        · refine g_iconst (n := 37) hx (dq tX10_stepOfKin 23 rfl) rfl ?_
          refine g_ior (n := 38) hx (dq tX10_stepOfKin 24 rfl) rfl (fun z_18 h_19 h_20 => ?_)
          clear h_20
          refine g_istore_n (n := 39) (lv' := [(2, vI z_18), (3, vI i_1), (0, aR Γ 229), (1, vI set)]) hx (dq tX10_stepOfKin 25 rfl) (by decide) rfl rfl ?_
          refine g_iinc (n := 42) (lv' := [(3, vI (i_1 + 1)), (2, vI z_18), (0, aR Γ 229), (1, vI set)]) hx 1 (dq tX10_stepOfKin 26 rfl) rfl (by decide) rfl rfl ?_
          refine g_goto (n := 4) hx (dq tX10_stepOfKin 27 rfl) (by decide) ?_
          exact ih_4 _ (by omega) (i_1 + 1) z_18 (by omega) (by omega) (by omega) (by omega) rfl
        · refine g_aload_n (n := 28) hx 2 (dq tX10_stepOfKin 18 rfl) rfl rfl ?_
          refine g_getR (n := 31) hx glX10_64 (sX10_19 (by decide)) (dq tX10_stepOfKin 19 rfl) rfl ?_
          refine g_iload_n (n := 32) hx 0 (dq tX10_stepOfKin 20 rfl) rfl rfl ?_
          refine g_iald (n := 33) (q := i_1.toNat) hx (aX10_19 (b := 229) (by decide)) (dq tX10_stepOfKin 21 rfl) rfl (by omega) (by omega) (by omega) rfl (fun h_21l h_21u => ?_)
          refine g_goto (n := 37) hx (dq tX10_stepOfKin 22 rfl) (by decide) ?_
          refine g_ior (n := 38) hx (dq tX10_stepOfKin 24 rfl) rfl (fun z_22 h_23 h_24 => ?_)
          clear h_24
          refine g_istore_n (n := 39) (lv' := [(2, vI z_22), (3, vI i_1), (0, aR Γ 229), (1, vI set)]) hx (dq tX10_stepOfKin 25 rfl) (by decide) rfl rfl ?_
          refine g_iinc (n := 42) (lv' := [(3, vI (i_1 + 1)), (2, vI z_22), (0, aR Γ 229), (1, vI set)]) hx 1 (dq tX10_stepOfKin 26 rfl) rfl (by decide) rfl rfl ?_
          refine g_goto (n := 4) hx (dq tX10_stepOfKin 27 rfl) (by decide) ?_
          exact ih_4 _ (by omega) (i_1 + 1) z_22 (by omega) (by omega) (by omega) (by omega) rfl
  exact L_3 _ 0 set (by omega) (by omega) (by omega) (by omega) rfl

abbrev qctX10_seed (M : zM) (v : Int) (z : Int) (M' : zM) : Prop := (∀ u_ v_, (u_ ≠ 229 + 1 ∨ v_ ≠ 16) → M' u_ v_ = M u_ v_) ∧ (v < 0 → (z = -1 ∧ M' (229 + 1) 16 = M (229 + 1) 16)) ∧ (0 ≤ v → (z = M (229 + 1) 16 ∧ M' (229 + 1) 16 = v))
set_option maxHeartbeats 4000000 in
set_option maxRecDepth 100000 in
theorem ctX10_seed (Γ : Gam) (M : zM) (v : Int) (hvl : (-2147483648) ≤ v) (hvu : v ≤ 2147483647)  : CtI Γ yX10_seed cX10_seed 3 (some .int) 0 0 [aR Γ 229, vI v] M (qctX10_seed M v) := by
  refine met_i (by decide) (Nat.le_of_ble_eq_true rfl) (fun x hx hr => ?_)
  show G Γ x 3 (QI Γ x (qctX10_seed M v)) M 0 [(0, aR Γ 229), (1, vI v)] []
  refine g_iload_n (n := 1) hx 1 (dq tX10_seed 0 rfl) rfl rfl ?_
  refine g_if_ge (n := 4) (t := 6) hx (dq tX10_seed 1 rfl) (by decide) rfl (zrI hvl hvu (by decide) (by decide)) (fun c_1 => ?_) (fun c_1 => ?_)
  · refine g_aload_n (n := 7) hx 0 (dq tX10_seed 4 rfl) rfl rfl ?_
    refine g_getR (n := 10) hx glX10_9 (sX10_1 (by decide)) (dq tX10_seed 5 rfl) rfl ?_
    refine g_bipush (n := 12) hx (dq tX10_seed 6 rfl) rfl (by decide) ?_
    refine g_ialdX (n := 13) (q := 16) hx (aX10_1 (b := 229) (by decide)) (dq tX10_seed 7 rfl) rfl (by decide) (by decide) (by decide) rfl (fun h_2l h_2u => ?_)
    have h_2l : (-2147483648) ≤ M (229 + 1) 16 := h_2l
    have h_2u : M (229 + 1) 16 ≤ 2147483647 := h_2u
    refine g_istore_n (n := 14) (lv' := [(2, vI (M (229 + 1) 16)), (0, aR Γ 229), (1, vI v)]) hx (dq tX10_seed 8 rfl) (by decide) rfl rfl ?_
    refine g_aload_n (n := 15) hx 1 (dq tX10_seed 9 rfl) rfl rfl ?_
    refine g_getR (n := 18) hx glX10_9 (sX10_1 (by decide)) (dq tX10_seed 10 rfl) rfl ?_
    refine g_bipush (n := 20) hx (dq tX10_seed 11 rfl) rfl (by decide) ?_
    refine g_iload_n (n := 21) hx 2 (dq tX10_seed 12 rfl) rfl rfl ?_
    refine g_iastX (n := 22) (q := 16) hx (aX10_1 (b := 229) (by decide)) (dq tX10_seed 13 rfl) rfl (by decide) (by decide) (by decide) rfl (show (-2147483648) ≤ v by omega) (show v ≤ 2147483647 by omega) (fun M_3 m_4e m_4 => ?_)
    refine g_iload_n (n := 23) hx 0 (dq tX10_seed 14 rfl) rfl rfl ?_
    exact g_iret hx hr (dq tX10_seed 15 rfl) (zrI h_2l h_2u (by decide) (by decide)) ⟨(fun u_ v_ huv_ => (m_4 u_ v_ (by omega))), (by omega), (by omega)⟩
  · refine g_iconst (n := 5) hx (dq tX10_seed 2 rfl) rfl ?_
    exact g_iret hx hr (dq tX10_seed 3 rfl) ⟨by decide, by decide⟩ ⟨(fun _ _ _ => rfl), (by omega), (by omega)⟩
