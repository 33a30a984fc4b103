set_option maxHeartbeats 4000000 in
set_option maxRecDepth 100000 in
theorem ctJ0_coder_7d493 (Γ : Gam) (M : zM) (i : Nat) (r : String × Nat × String × Nat) (hi : sN[i]? = some r) : CtI Γ yJ0_coder_7d493 cJ0_coder_7d493 1 (some .byte) 0 0 [sR Γ i] M (fun z M' => M = M' ∧ z = 0) := by
  refine met_i (by decide) (Nat.le_of_ble_eq_true rfl) (fun x hx hr => ?_)
  show G Γ x 1 (QI Γ x (fun z M' => M = M' ∧ z = 0)) M 0 [(0, sR Γ i)] []
  refine g_compact (n := 3) hx wd_504 (dq tJ0_coder_7d493 0 rfl) rfl ?_
  refine g_if_eq (n := 6) (t := 13) hx (dq tJ0_coder_7d493 1 rfl) (by decide) rfl ⟨by decide, by decide⟩ (fun h => absurd h (by decide)) (fun _ => ?_)
  refine g_aload_nS (n := 7) hx 0 (dq tJ0_coder_7d493 2 rfl) rfl rfl ?_
  refine g_coder (n := 10) hx hi wd_1975 (dq tJ0_coder_7d493 3 rfl) rfl ?_
  refine g_goto (n := 14) hx (dq tJ0_coder_7d493 4 rfl) (by decide) ?_
  exact g_bret hx hr (dq tJ0_coder_7d493 6 rfl) ⟨rfl, rfl⟩

set_option maxHeartbeats 4000000 in
set_option maxRecDepth 100000 in
theorem ctJ0_length_8abf5 (Γ : Gam) (M : zM) (i : Nat) (r : String × Nat × String × Nat) (hi : sN[i]? = some r) : CtI Γ yJ0_length_8abf5 cJ0_length_8abf5 1 (some .int) 1 20 [sR Γ i] M (fun z M' => M = M' ∧ z = r.2.2.2) := by
  refine met_i (by decide) (Nat.le_of_ble_eq_true rfl) (fun x hx hr => ?_)
  have hle := sNle i r hi
  show G Γ x 1 (QI Γ x (fun z M' => M = M' ∧ z = r.2.2.2)) M 0 [(0, sR Γ i)] []
  refine g_aload_nS (n := 1) hx 0 (dq tJ0_length_8abf5 0 rfl) rfl rfl ?_
  refine g_value (n := 4) hx hi wd_1974 (dq tJ0_length_8abf5 1 rfl) rfl ?_
  refine g_tlen (n := 5) hx hi (dq tJ0_length_8abf5 2 rfl) rfl ?_
  refine g_aload_nS (n := 6) hx 0 (dq tJ0_length_8abf5 3 rfl) rfl rfl ?_
  refine g_callSt (n := 9) (As := []) (rest := [vI r.2.2.2]) hx (ctJ0_coder_7d493 Γ M i r hi) mlJ0_335 rfl hi (dq tJ0_length_8abf5 4 rfl) rfl (Nat.le_of_ble_eq_true rfl) (Nat.le_of_ble_eq_true rfl) (Nat.le_of_ble_eq_true rfl) rfl (fun z M1 hz hp => ?_)
  obtain ⟨rfl, rfl⟩ := hp
  refine g_ishr0 (n := 10) hx (dq tJ0_length_8abf5 5 rfl) rfl ?_
  exact g_iret hx hr (dq tJ0_length_8abf5 6 rfl) ⟨by omega, by omega⟩ ⟨rfl, rfl⟩

set_option maxHeartbeats 4000000 in
set_option maxRecDepth 100000 in
theorem ctJ0_isLatin1_aae02 (Γ : Gam) (M : zM) (i : Nat) (r : String × Nat × String × Nat) (hi : sN[i]? = some r) : CtI Γ yJ0_isLatin1_aae02 cJ0_isLatin1_aae02 1 (some .boolean) 0 0 [sR Γ i] M (fun z M' => M = M' ∧ z = 1) := by
  refine met_i (by decide) (Nat.le_of_ble_eq_true rfl) (fun x hx hr => ?_)
  show G Γ x 1 (QI Γ x (fun z M' => M = M' ∧ z = 1)) M 0 [(0, sR Γ i)] []
  refine g_compact (n := 3) hx wd_504 (dq tJ0_isLatin1_aae02 0 rfl) rfl ?_
  refine g_if_eq (n := 6) (t := 17) hx (dq tJ0_isLatin1_aae02 1 rfl) (by decide) rfl ⟨by decide, by decide⟩ (fun h => absurd h (by decide)) (fun _ => ?_)
  refine g_aload_nS (n := 7) hx 0 (dq tJ0_isLatin1_aae02 2 rfl) rfl rfl ?_
  refine g_coder (n := 10) hx hi wd_1975 (dq tJ0_isLatin1_aae02 3 rfl) rfl ?_
  refine g_if_ne (n := 13) (t := 17) hx (dq tJ0_isLatin1_aae02 4 rfl) (by decide) rfl ⟨by decide, by decide⟩ (fun h => absurd rfl h) (fun _ => ?_)
  refine g_iconst (n := 14) hx (dq tJ0_isLatin1_aae02 5 rfl) rfl ?_
  refine g_goto (n := 18) hx (dq tJ0_isLatin1_aae02 6 rfl) (by decide) ?_
  exact g_zret hx hr (dq tJ0_isLatin1_aae02 8 rfl) (Or.inr rfl) ⟨rfl, rfl⟩

set_option maxHeartbeats 4000000 in
set_option maxRecDepth 100000 in
theorem ctJ3_checkIndex_8e157 (Γ : Gam) (M : zM) (k n : Int) (v : Value) (hv : v = .null ∨ ∃ t, v = .ref t) (h0 : 0 ≤ k) (h1 : k < n) (h2 : n ≤ 2147483647) : CtI Γ yJ3_checkIndex_8e157 cJ3_checkIndex_8e157 3 (some .int) 0 0 [vI k, vI n, v] M (fun z M' => M = M') := by
  refine met_i (by decide) ((by rcases hv with rfl | ⟨t, rfl⟩ <;> exact Nat.le_of_ble_eq_true rfl)) (fun x hx hr => ?_)
  show G Γ x 3 (QI Γ x (fun z M' => M = M')) M 0 (lv_args 0 [vI k, vI n, v]) []
  refine g_iload_n (n := 1) hx 0 (dq tJ3_checkIndex_8e157 0 rfl) rfl rfl ?_
  refine g_if_lt (n := 4) (t := 9) hx (dq tJ3_checkIndex_8e157 1 rfl) (by decide) rfl ⟨by omega, by omega⟩ (fun h => absurd h (by omega)) (fun _ => ?_)
  refine g_iload_n (n := 5) hx 0 (dq tJ3_checkIndex_8e157 2 rfl) rfl rfl ?_
  refine g_iload_n (n := 6) hx 1 (dq tJ3_checkIndex_8e157 3 rfl) rfl rfl ?_
  refine g_icmp_lt (n := 9) (t := 16) hx (dq tJ3_checkIndex_8e157 4 rfl) (by decide) rfl ⟨by omega, by omega⟩ ⟨by omega, by omega⟩ (fun _ => ?_) (fun h => absurd h1 h)
  refine g_iload_n (n := 17) hx 0 (dq tJ3_checkIndex_8e157 10 rfl) rfl rfl ?_
  exact g_iret hx hr (dq tJ3_checkIndex_8e157 11 rfl) ⟨by omega, by omega⟩ rfl

set_option maxHeartbeats 4000000 in
set_option maxRecDepth 100000 in
theorem ctJ0_checkIndex_df160 (Γ : Gam) (M : zM) (k n : Int) (h0 : 0 ≤ k) (h1 : k < n) (h2 : n ≤ 2147483647) : CtV Γ yJ0_checkIndex_df160 cJ0_checkIndex_df160 2 none 1 22 [vI k, vI n] M (fun M' => M = M') := by
  refine met_v (by decide) (Nat.le_of_ble_eq_true rfl) (fun x hx hr => ?_)
  show G Γ x 2 (QV Γ x (fun M' => M = M')) M 0 [(0, vI k), (1, vI n)] []
  refine g_iload_n (n := 1) hx 0 (dq tJ0_checkIndex_df160 0 rfl) rfl rfl ?_
  refine g_iload_n (n := 2) hx 1 (dq tJ0_checkIndex_df160 1 rfl) rfl rfl ?_
  refine g_former (n := 5) hx wd_520 (dq tJ0_checkIndex_df160 2 rfl) rfl ?_ (fun t => ?_)
  · refine g_callSi (n := 8) (As := [vI k, vI n, .null]) (rest := []) hx (ctJ3_checkIndex_8e157 Γ M k n .null (Or.inl rfl) h0 h1 h2) mlJ0_1059 (dq tJ0_checkIndex_df160 3 rfl) rfl (Nat.le_of_ble_eq_true rfl) (Nat.le_of_ble_eq_true rfl) (Nat.le_of_ble_eq_true rfl) rfl (fun z M1 hz hp => ?_)
    obtain rfl := hp
    refine g_pop (n := 9) hx (dq tJ0_checkIndex_df160 4 rfl) rfl rfl ?_
    exact g_vret hx hr (dq tJ0_checkIndex_df160 5 rfl) rfl
  · refine g_callSi (n := 8) (As := [vI k, vI n, .ref t]) (rest := []) hx (ctJ3_checkIndex_8e157 Γ M k n (.ref t) (Or.inr ⟨t, rfl⟩) h0 h1 h2) mlJ0_1059 (dq tJ0_checkIndex_df160 3 rfl) rfl (Nat.le_of_ble_eq_true rfl) (Nat.le_of_ble_eq_true rfl) (Nat.le_of_ble_eq_true rfl) rfl (fun z M1 hz hp => ?_)
    obtain rfl := hp
    refine g_pop (n := 9) hx (dq tJ0_checkIndex_df160 4 rfl) rfl rfl ?_
    exact g_vret hx hr (dq tJ0_checkIndex_df160 5 rfl) rfl

set_option maxHeartbeats 4000000 in
set_option maxRecDepth 100000 in
theorem ctJ1_charAt_3b067 (Γ : Gam) (M : zM) (i : Nat) (r : String × Nat × String × Nat) (hi : sN[i]? = some r) (k : Int) (h0 : 0 ≤ k) (h1 : k < r.2.2.2) : CtI Γ yJ1_charAt_3b067 cJ1_charAt_3b067 2 (some .char) 2 43 [.ref (gs Γ (2 * i + 1)), vI k] M (fun z M' => M = M' ∧ 0 ≤ z ∧ z ≤ 255) := by
  refine met_i (by decide) (Nat.le_of_ble_eq_true rfl) (fun x hx hr => ?_)
  have hle := sNle i r hi
  show G Γ x 2 (QI Γ x (fun z M' => M = M' ∧ 0 ≤ z ∧ z ≤ 255)) M 0 [(0, .ref (gs Γ (2 * i + 1))), (1, vI k)] []
  refine g_iload_n (n := 1) hx 1 (dq tJ1_charAt_3b067 0 rfl) rfl rfl ?_
  refine g_aload_nR (n := 2) hx 0 (dq tJ1_charAt_3b067 1 rfl) rfl rfl ?_
  refine g_tlen (n := 3) hx hi (dq tJ1_charAt_3b067 2 rfl) rfl ?_
  refine g_callSv (n := 6) (As := [vI k, vI r.2.2.2]) (rest := []) hx (ctJ0_checkIndex_df160 Γ M k r.2.2.2 h0 h1 (by omega)) mlJ1_9 (dq tJ1_charAt_3b067 3 rfl) rfl (Nat.le_of_ble_eq_true rfl) (Nat.le_of_ble_eq_true rfl) (Nat.le_of_ble_eq_true rfl) rfl (fun M1 hp => ?_)
  obtain rfl := hp
  refine g_aload_nR (n := 7) hx 0 (dq tJ1_charAt_3b067 4 rfl) rfl rfl ?_
  refine g_iload_n (n := 8) hx 1 (dq tJ1_charAt_3b067 5 rfl) rfl rfl ?_
  refine g_tald (n := 9) hx hi (dq tJ1_charAt_3b067 6 rfl) rfl h0 h1 (by omega) (fun z hz => ?_)
  refine g_sipush (n := 12) hx (dq tJ1_charAt_3b067 7 rfl) rfl (by decide) ?_
  refine g_iand (n := 13) hx (dq tJ1_charAt_3b067 8 rfl) rfl (fun z2 hz2 q1 q2 => ?_)
  have q3 := q1 (by decide) (by decide)
  refine g_i2cI (n := 14) hx (dq tJ1_charAt_3b067 9 rfl) rfl (by omega) (by omega) ?_
  exact g_cret hx hr (dq tJ1_charAt_3b067 10 rfl) (by omega) (by omega) ⟨rfl, by omega, by omega⟩

set_option maxHeartbeats 4000000 in
set_option maxRecDepth 100000 in
theorem ctJ0_charAt_5068e (Γ : Gam) (M : zM) (i : Nat) (r : String × Nat × String × Nat) (hi : sN[i]? = some r) (k : Int) (h0 : 0 ≤ k) (h1 : k < r.2.2.2) : CtI Γ yJ0_charAt_5068e cJ0_charAt_5068e 2 (some .char) 3 64 [sR Γ i, vI k] M (fun z M' => M = M' ∧ 0 ≤ z ∧ z ≤ 255) := by
  refine met_i (by decide) (Nat.le_of_ble_eq_true rfl) (fun x hx hr => ?_)
  have hle := sNle i r hi
  show G Γ x 2 (QI Γ x (fun z M' => M = M' ∧ 0 ≤ z ∧ z ≤ 255)) M 0 [(0, sR Γ i), (1, vI k)] []
  refine g_aload_nS (n := 1) hx 0 (dq tJ0_charAt_5068e 0 rfl) rfl rfl ?_
  refine g_callSt (n := 4) (As := []) (rest := []) hx (ctJ0_isLatin1_aae02 Γ M i r hi) mlJ0_492 rfl hi (dq tJ0_charAt_5068e 1 rfl) rfl (Nat.le_of_ble_eq_true rfl) (Nat.le_of_ble_eq_true rfl) (Nat.le_of_ble_eq_true rfl) rfl (fun z M1 hz hp => ?_)
  obtain ⟨rfl, rfl⟩ := hp
  refine g_if_eq (n := 7) (t := 16) hx (dq tJ0_charAt_5068e 2 rfl) (by decide) rfl ⟨by decide, by decide⟩ (fun h => absurd h (by decide)) (fun _ => ?_)
  refine g_aload_nS (n := 8) hx 0 (dq tJ0_charAt_5068e 3 rfl) rfl rfl ?_
  refine g_value (n := 11) hx hi wd_1974 (dq tJ0_charAt_5068e 4 rfl) rfl ?_
  refine g_iload_n (n := 12) hx 1 (dq tJ0_charAt_5068e 5 rfl) rfl rfl ?_
  refine g_callSi (n := 15) (As := [.ref (gs Γ (2 * i + 1)), vI k]) (rest := []) hx (ctJ1_charAt_3b067 Γ M i r hi k h0 h1) mlJ0_495 (dq tJ0_charAt_5068e 6 rfl) rfl (Nat.le_of_ble_eq_true rfl) (Nat.le_of_ble_eq_true rfl) (Nat.le_of_ble_eq_true rfl) rfl (fun z M1 hz hp => ?_)
  obtain ⟨rfl, q1, q2⟩ := hp
  exact g_cret hx hr (dq tJ0_charAt_5068e 7 rfl) (by omega) (by omega) ⟨rfl, q1, q2⟩

abbrev qctX7_append (M : zM) (number : Int) (M' : zM) : Prop := (∀ u_ v_, (u_ ≠ 7 ∨ v_ ≠ 1) ∧ u_ ≠ 7 + 1 → M' u_ v_ = M u_ v_)
set_option maxHeartbeats 4000000 in
set_option maxRecDepth 100000 in
theorem ctX7_append (Γ : Gam) (M : zM) (number : Int) (hnumberl : (-2147483648) ≤ number) (hnumberu : number ≤ 2147483647)  : CtV Γ yX7_append cX7_append 3 none 0 0 [aR Γ 7, vI number] M (qctX7_append M number) := by
  refine met_v (by decide) (Nat.le_of_ble_eq_true rfl) (fun x hx hr => ?_)
  show G Γ x 3 (QV Γ x (qctX7_append M number)) M 0 [(0, aR Γ 7), (1, vI number)] []
  refine g_bipush (n := 2) hx (dq tX7_append 0 rfl) rfl (by decide) ?_
  refine g_istore_n (n := 3) (lv' := [(2, vI 24), (0, aR Γ 7), (1, vI number)]) hx (dq tX7_append 1 rfl) (by decide) rfl rfl ?_
  have L_3 : ∀ (n_ : Nat) (i_1 : Int) (M_2 : zM), ((-8) ≤ i_1) → (i_1 ≤ 24) → (∀ u_ v_, (u_ ≠ 7 ∨ v_ ≠ 1) ∧ u_ ≠ 7 + 1 → M_2 u_ v_ = M u_ v_) → ((i_1 - (-8)).toNat = n_) → G Γ x 3 (QV Γ x (qctX7_append M number)) M_2 3 [(2, vI i_1), (0, aR Γ 7), (1, vI number)] [] := by
    intro n_
    induction n_ using Nat.strongRecOn with
    | _ n_ ih_4 =>
      intro i_1 M_2 h_7 h_8 f_5 hm_6
      refine g_iload_n (n := 4) hx 0 (dq tX7_append 2 rfl) rfl rfl ?_
      refine g_if_lt (n := 7) (t := 49) hx (dq tX7_append 3 rfl) (by decide) rfl ⟨by omega, by omega⟩ (fun c_9 => ?_) (fun c_9 => ?_)
      · exact g_vret hx hr (dq tX7_append 26 rfl) (fun u_ v_ huv_ => (f_5 u_ v_ (by omega)))
      · refine g_aload_n (n := 8) hx 1 (dq tX7_append 4 rfl) rfl rfl ?_
        refine g_getI (n := 11) hx glX7_15 (sX7_1 (by decide)) (dq tX7_append 5 rfl) rfl (fun h_10l h_10u => ?_)
        refine g_sipush (n := 14) hx (dq tX7_append 6 rfl) rfl (by decide) ?_
        refine g_icmp_ge (n := 17) (t := 49) hx (dq tX7_append 7 rfl) (by decide) rfl (zrI h_10l h_10u (by decide) (by decide)) ⟨by decide, by decide⟩ (fun c_11 => ?_) (fun c_11 => ?_)
        · exact g_vret hx hr (dq tX7_append 26 rfl) (fun u_ v_ huv_ => (f_5 u_ v_ (by omega)))
        · refine g_aload_n (n := 18) hx 1 (dq tX7_append 8 rfl) rfl rfl ?_
          refine g_getR (n := 21) hx glX7_9 (sX7_0 (by decide)) (dq tX7_append 9 rfl) rfl ?_
          refine g_aload_n (n := 22) hx 1 (dq tX7_append 10 rfl) rfl rfl ?_
          refine g_getI (n := 25) hx glX7_15 (sX7_1 (by decide)) (dq tX7_append 11 rfl) rfl (fun h_12l h_12u => ?_)
          refine g_iload_n (n := 26) hx 2 (dq tX7_append 12 rfl) rfl rfl ?_
          refine g_iload_n (n := 27) hx 0 (dq tX7_append 13 rfl) rfl rfl ?_
          refine g_iushr (n := 28) hx (dq tX7_append 14 rfl) rfl (fun z_13 h_14 => ?_)
          refine g_sipush (n := 31) hx (dq tX7_append 15 rfl) rfl (by decide) ?_
          refine g_iand (n := 32) hx (dq tX7_append 16 rfl) rfl (fun z_16 h_17 h_181 h_182 => ?_)
          obtain ⟨h_183, h_184⟩ := h_181 (by omega) (by omega)
          clear h_181 h_182
          refine g_iast (n := 33) (q := (M_2 7 1).toNat) hx (aX7_0 (b := 7) (by decide)) (dq tX7_append 17 rfl) rfl (by omega) (by omega) (by omega) rfl (by omega) (by omega) (fun M_19 m_20e m_20 => ?_)
          refine g_aload_n (n := 34) hx 1 (dq tX7_append 18 rfl) rfl rfl ?_
          refine g_dup (n := 35) hx (dq tX7_append 19 rfl) rfl rfl ?_
          refine g_getI (n := 38) hx glX7_15 (sX7_1 (by decide)) (dq tX7_append 20 rfl) rfl (fun h_21l h_21u => ?_)
          have e_22 : M_19 7 1 = M_2 7 1 := (m_20 7 1 (by omega))
          refine g_iconst (n := 39) hx (dq tX7_append 21 rfl) rfl ?_
          refine g_iadd (n := 40) hx (dq tX7_append 22 rfl) rfl ?_
          refine g_putI (n := 43) hx plX7_15 (sX7_1 (by decide)) (dq tX7_append 23 rfl) rfl (by omega) (by omega) (fun M_23 m_24e m_24 => ?_)
          refine g_iinc (n := 46) (lv' := [(2, vI (i_1 + (-8))), (0, aR Γ 7), (1, vI number)]) hx 0 (dq tX7_append 24 rfl) rfl (by decide) rfl rfl ?_
          refine g_goto (n := 3) hx (dq tX7_append 25 rfl) (by decide) ?_
          exact ih_4 _ (by omega) (i_1 + (-8)) M_23 (by omega) (by omega) (fun u_ v_ huv_ => (((m_24 u_ v_ (by omega)).trans (m_20 u_ v_ (by omega))).trans (f_5 u_ v_ (by omega)))) rfl
  exact L_3 _ 24 M (by omega) (by omega) (fun _ _ _ => rfl) rfl

abbrev qctX7_pass (M : zM)  (M' : zM) : Prop := (∀ u_ v_, (u_ ≠ 7 ∨ v_ ≠ 2) ∧ (u_ ≠ 7 ∨ v_ ≠ 3) ∧ (u_ ≠ 7 ∨ v_ ≠ 4) → M' u_ v_ = M u_ v_)
set_option maxHeartbeats 4000000 in
set_option maxRecDepth 100000 in
theorem ctX7_pass (Γ : Gam) (M : zM)   : CtV Γ yX7_pass cX7_pass 4 none 0 0 [aR Γ 7] M (qctX7_pass M) := by
  refine met_v (by decide) (Nat.le_of_ble_eq_true rfl) (fun x hx hr => ?_)
  show G Γ x 4 (QV Γ x (qctX7_pass M)) M 0 [(0, aR Γ 7)] []
  refine g_aload_n (n := 1) hx 0 (dq tX7_pass 0 rfl) rfl rfl ?_
  refine g_aload_n (n := 2) hx 0 (dq tX7_pass 1 rfl) rfl rfl ?_
  refine g_getI (n := 5) hx glX7_22 (sX7_3 (by decide)) (dq tX7_pass 2 rfl) rfl (fun h_1l h_1u => ?_)
  refine g_putI (n := 8) hx plX7_28 (sX7_2 (by decide)) (dq tX7_pass 3 rfl) rfl (by omega) (by omega) (fun M_2 m_3e m_3 => ?_)
  have L_5 : ∀ (n_ : Nat) (M_4 : zM), (∀ u_ v_, (u_ ≠ 7 ∨ v_ ≠ 2) → M_4 u_ v_ = M_2 u_ v_) → ((400 - M_4 7 2).toNat = n_) → G Γ x 4 (QV Γ x (qctX7_pass M)) M_4 8 [(0, aR Γ 7)] [] := by
    intro n_
    induction n_ using Nat.strongRecOn with
    | _ n_ ih_6 =>
      intro M_4 f_7 hm_8
      refine g_aload_n (n := 9) hx 0 (dq tX7_pass 4 rfl) rfl rfl ?_
      refine g_getI (n := 12) hx glX7_28 (sX7_2 (by decide)) (dq tX7_pass 5 rfl) rfl (fun h_9l h_9u => ?_)
      refine g_aload_n (n := 13) hx 0 (dq tX7_pass 6 rfl) rfl rfl ?_
      refine g_getI (n := 16) hx glX7_15 (sX7_1 (by decide)) (dq tX7_pass 7 rfl) rfl (fun h_10l h_10u => ?_)
      refine g_icmp_ge (n := 19) (t := 46) hx (dq tX7_pass 8 rfl) (by decide) rfl (zrI h_9l h_9u (by decide) (by decide)) (zrI h_10l h_10u (by decide) (by decide)) (fun c_11 => ?_) (fun c_11 => ?_)
      · refine g_aload_n (n := 47) hx 0 (dq tX7_pass 23 rfl) rfl rfl ?_
        refine g_aload_n (n := 48) hx 0 (dq tX7_pass 24 rfl) rfl rfl ?_
        refine g_getI (n := 51) hx glX7_28 (sX7_2 (by decide)) (dq tX7_pass 25 rfl) rfl (fun h_12l h_12u => ?_)
        refine g_aload_n (n := 52) hx 0 (dq tX7_pass 26 rfl) rfl rfl ?_
        refine g_getI (n := 55) hx glX7_15 (sX7_1 (by decide)) (dq tX7_pass 27 rfl) rfl (fun h_13l h_13u => ?_)
        have J_16 : ∀ (j_15 : Int),  ((-1) ≤ j_15) → (j_15 ≤ 255) → G Γ x 4 (QV Γ x (qctX7_pass M)) M_4 71 [(0, aR Γ 7)] [vI j_15, aR Γ 7] := by
          intro j_15 h_17 h_18
          refine g_putI (n := 74) hx plX7_31 (sX7_4 (by decide)) (dq tX7_pass 36 rfl) rfl (by omega) (by omega) (fun M_19 m_20e m_20 => ?_)
          refine g_aload_n (n := 75) hx 0 (dq tX7_pass 37 rfl) rfl rfl ?_
          refine g_aload_n (n := 76) hx 0 (dq tX7_pass 38 rfl) rfl rfl ?_
          refine g_getI (n := 79) hx glX7_28 (sX7_2 (by decide)) (dq tX7_pass 39 rfl) rfl (fun h_21l h_21u => ?_)
          have e_22 : M_19 7 2 = M_4 7 2 := (m_20 7 2 (by omega))
          refine g_aload_n (n := 80) hx 0 (dq tX7_pass 40 rfl) rfl rfl ?_
          refine g_getI (n := 83) hx glX7_15 (sX7_1 (by decide)) (dq tX7_pass 41 rfl) rfl (fun h_23l h_23u => ?_)
          have e_24 : M_19 7 1 = M_4 7 1 := (m_20 7 1 (by omega))
          have J_27 : ∀ (j_26 : Int),  (0 ≤ j_26) → (j_26 ≤ 400) → G Γ x 4 (QV Γ x (qctX7_pass M)) M_19 99 [(0, aR Γ 7)] [vI j_26, aR Γ 7] := by
            intro j_26 h_28 h_29
            refine g_putI (n := 102) hx plX7_22 (sX7_3 (by decide)) (dq tX7_pass 50 rfl) rfl (by omega) (by omega) (fun M_30 m_31e m_31 => ?_)
            refine g_sipush (n := 105) hx (dq tX7_pass 51 rfl) rfl (by decide) ?_
            refine g_istore_n (n := 106) (lv' := [(1, vI 256), (0, aR Γ 7)]) hx (dq tX7_pass 52 rfl) (by decide) rfl rfl ?_
            refine g_sipush (n := 109) hx (dq tX7_pass 53 rfl) rfl (by decide) ?_
            refine g_istore_n (n := 110) (lv' := [(2, vI 256), (1, vI 256), (0, aR Γ 7)]) hx (dq tX7_pass 54 rfl) (by decide) rfl rfl ?_
            refine g_aload_n (n := 111) hx 2 (dq tX7_pass 55 rfl) rfl rfl ?_
            refine g_getI (n := 114) hx glX7_15 (sX7_1 (by decide)) (dq tX7_pass 56 rfl) rfl (fun h_32l h_32u => ?_)
            have e_33 : M_30 7 1 = M_19 7 1 := (m_31 7 1 (by omega))
            refine g_istore_n (n := 115) (lv' := [(3, vI (M_30 7 1)), (2, vI 256), (1, vI 256), (0, aR Γ 7)]) hx (dq tX7_pass 57 rfl) (by decide) rfl rfl ?_
            refine g_aload_n (n := 116) hx 3 (dq tX7_pass 58 rfl) rfl rfl ?_
            refine g_getI (n := 119) hx glX7_31 (sX7_4 (by decide)) (dq tX7_pass 59 rfl) rfl (fun h_34l h_34u => ?_)
            have e_35 : M_30 7 4 = M_19 7 4 := (m_31 7 4 (by omega))
            refine g_bipush (n := 121) hx (dq tX7_pass 60 rfl) rfl (by decide) ?_
            have J_40 : ∀ (j_37 : Int) (j_38 : Int) (j_39 : Int),  (0 ≤ j_37) → (j_37 ≤ 402) → (57 ≤ j_38) → (j_38 ≤ 256) → (48 ≤ j_39) → (j_39 ≤ 256) → G Γ x 4 (QV Γ x (qctX7_pass M)) M_30 200 [(3, vI j_37), (2, vI j_38), (1, vI j_39), (0, aR Γ 7)] [] := by
              intro j_37 j_38 j_39 h_41 h_42 h_43 h_44 h_45 h_46
              have L_48 : ∀ (n_ : Nat) (M_47 : zM), (∀ u_ v_, (u_ ≠ 7 ∨ v_ ≠ 3) → M_47 u_ v_ = M_30 u_ v_) → ((400 - M_47 7 3).toNat = n_) → G Γ x 4 (QV Γ x (qctX7_pass M)) M_47 200 [(3, vI j_37), (2, vI j_38), (1, vI j_39), (0, aR Γ 7)] [] := by
                intro n_
                induction n_ using Nat.strongRecOn with
                | _ n_ ih_49 =>
                  intro M_47 f_50 hm_51
                  refine g_aload_n (n := 201) hx 3 (dq tX7_pass 101 rfl) rfl rfl ?_
                  refine g_getI (n := 204) hx glX7_22 (sX7_3 (by decide)) (dq tX7_pass 102 rfl) rfl (fun h_52l h_52u => ?_)
                  refine g_aload_n (n := 205) hx 3 (dq tX7_pass 103 rfl) rfl rfl ?_
                  refine g_getI (n := 208) hx glX7_15 (sX7_1 (by decide)) (dq tX7_pass 104 rfl) rfl (fun h_53l h_53u => ?_)
                  have e_54 : M_47 7 1 = M_30 7 1 := (f_50 7 1 (by omega))
                  refine g_icmp_ge (n := 211) (t := 258) hx (dq tX7_pass 105 rfl) (by decide) rfl (zrI h_52l h_52u (by decide) (by decide)) (zrI h_53l h_53u (by decide) (by decide)) (fun c_55 => ?_) (fun c_55 => ?_)
                  · exact g_vret hx hr (dq tX7_pass 131 rfl) (fun u_ v_ huv_ => (((((f_50 u_ v_ (by omega)).trans (m_31 u_ v_ (by omega))).trans (m_20 u_ v_ (by omega))).trans (f_7 u_ v_ (by omega))).trans (m_3 u_ v_ (by omega))))
                  · refine g_aload_n (n := 212) hx 3 (dq tX7_pass 106 rfl) rfl rfl ?_
                    refine g_getI (n := 215) hx glX7_22 (sX7_3 (by decide)) (dq tX7_pass 107 rfl) rfl (fun h_56l h_56u => ?_)
                    refine g_iload_n (n := 216) hx 0 (dq tX7_pass 108 rfl) rfl rfl ?_
                    refine g_icmp_ge (n := 219) (t := 258) hx (dq tX7_pass 109 rfl) (by decide) rfl (zrI h_56l h_56u (by decide) (by decide)) ⟨by omega, by omega⟩ (fun c_57 => ?_) (fun c_57 => ?_)
                    · exact g_vret hx hr (dq tX7_pass 131 rfl) (fun u_ v_ huv_ => (((((f_50 u_ v_ (by omega)).trans (m_31 u_ v_ (by omega))).trans (m_20 u_ v_ (by omega))).trans (f_7 u_ v_ (by omega))).trans (m_3 u_ v_ (by omega))))
                    · refine g_aload_n (n := 220) hx 3 (dq tX7_pass 110 rfl) rfl rfl ?_
                      refine g_getR (n := 223) hx glX7_9 (sX7_0 (by decide)) (dq tX7_pass 111 rfl) rfl ?_
                      refine g_aload_n (n := 224) hx 3 (dq tX7_pass 112 rfl) rfl rfl ?_
                      refine g_getI (n := 227) hx glX7_22 (sX7_3 (by decide)) (dq tX7_pass 113 rfl) rfl (fun h_58l h_58u => ?_)
                      refine g_iald (n := 228) (q := (M_47 7 3).toNat) hx (aX7_0 (b := 7) (by decide)) (dq tX7_pass 114 rfl) rfl (by omega) (by omega) (by omega) rfl (fun h_59l h_59u => ?_)
                      refine g_iload_n (n := 229) hx 2 (dq tX7_pass 115 rfl) rfl rfl ?_
                      refine g_icmp_lt (n := 232) (t := 258) hx (dq tX7_pass 116 rfl) (by decide) rfl (zrI h_59l h_59u (by decide) (by decide)) ⟨by omega, by omega⟩ (fun c_60 => ?_) (fun c_60 => ?_)
                      · exact g_vret hx hr (dq tX7_pass 131 rfl) (fun u_ v_ huv_ => (((((f_50 u_ v_ (by omega)).trans (m_31 u_ v_ (by omega))).trans (m_20 u_ v_ (by omega))).trans (f_7 u_ v_ (by omega))).trans (m_3 u_ v_ (by omega))))
                      · refine g_aload_n (n := 233) hx 3 (dq tX7_pass 117 rfl) rfl rfl ?_
                        refine g_getR (n := 236) hx glX7_9 (sX7_0 (by decide)) (dq tX7_pass 118 rfl) rfl ?_
                        refine g_aload_n (n := 237) hx 3 (dq tX7_pass 119 rfl) rfl rfl ?_
                        refine g_getI (n := 240) hx glX7_22 (sX7_3 (by decide)) (dq tX7_pass 120 rfl) rfl (fun h_61l h_61u => ?_)
                        refine g_iald (n := 241) (q := (M_47 7 3).toNat) hx (aX7_0 (b := 7) (by decide)) (dq tX7_pass 121 rfl) rfl (by omega) (by omega) (by omega) rfl (fun h_62l h_62u => ?_)
                        refine g_iload_n (n := 242) hx 1 (dq tX7_pass 122 rfl) rfl rfl ?_
                        refine g_icmp_gt (n := 245) (t := 258) hx (dq tX7_pass 123 rfl) (by decide) rfl (zrI h_62l h_62u (by decide) (by decide)) ⟨by omega, by omega⟩ (fun c_63 => ?_) (fun c_63 => ?_)
                        · exact g_vret hx hr (dq tX7_pass 131 rfl) (fun u_ v_ huv_ => (((((f_50 u_ v_ (by omega)).trans (m_31 u_ v_ (by omega))).trans (m_20 u_ v_ (by omega))).trans (f_7 u_ v_ (by omega))).trans (m_3 u_ v_ (by omega))))
                        · refine g_aload_n (n := 246) hx 3 (dq tX7_pass 124 rfl) rfl rfl ?_
                          refine g_dup (n := 247) hx (dq tX7_pass 125 rfl) rfl rfl ?_
                          refine g_getI (n := 250) hx glX7_22 (sX7_3 (by decide)) (dq tX7_pass 126 rfl) rfl (fun h_64l h_64u => ?_)
                          refine g_iconst (n := 251) hx (dq tX7_pass 127 rfl) rfl ?_
                          refine g_iadd (n := 252) hx (dq tX7_pass 128 rfl) rfl ?_
                          refine g_putI (n := 255) hx plX7_22 (sX7_3 (by decide)) (dq tX7_pass 129 rfl) rfl (by omega) (by omega) (fun M_65 m_66e m_66 => ?_)
                          refine g_goto (n := 200) hx (dq tX7_pass 130 rfl) (by decide) ?_
                          exact ih_49 _ (by omega) M_65 (fun u_ v_ huv_ => ((m_66 u_ v_ (by omega)).trans (f_50 u_ v_ (by omega)))) rfl
              exact L_48 _ M_30 (fun _ _ _ => rfl) rfl
            refine g_icmp_eq (n := 124) (t := 133) hx (dq tX7_pass 61 rfl) (by decide) rfl (zrI h_34l h_34u (by decide) (by decide)) ⟨by decide, by decide⟩ (fun c_36 => ?_) (fun c_36 => ?_)
            · refine g_bipush (n := 135) hx (dq tX7_pass 66 rfl) rfl (by decide) ?_
              refine g_istore_n (n := 136) (lv' := [(1, vI 61), (3, vI (M_30 7 1)), (2, vI 256), (0, aR Γ 7)]) hx (dq tX7_pass 67 rfl) (by decide) rfl rfl ?_
              refine g_bipush (n := 138) hx (dq tX7_pass 68 rfl) rfl (by decide) ?_
              refine g_istore_n (n := 139) (lv' := [(2, vI 61), (1, vI 61), (3, vI (M_30 7 1)), (0, aR Γ 7)]) hx (dq tX7_pass 69 rfl) (by decide) rfl rfl ?_
              refine g_aload_n (n := 140) hx 3 (dq tX7_pass 70 rfl) rfl rfl ?_
              refine g_getI (n := 143) hx glX7_28 (sX7_2 (by decide)) (dq tX7_pass 71 rfl) rfl (fun h_67l h_67u => ?_)
              have e_68 : M_30 7 2 = M_19 7 2 := (m_31 7 2 (by omega))
              refine g_iconst (n := 144) hx (dq tX7_pass 72 rfl) rfl ?_
              refine g_iadd (n := 145) hx (dq tX7_pass 73 rfl) rfl ?_
              refine g_istore_n (n := 146) (lv' := [(3, vI ((M_30 7 2) + 2)), (2, vI 61), (1, vI 61), (0, aR Γ 7)]) hx (dq tX7_pass 74 rfl) (by decide) rfl rfl ?_
              refine g_goto (n := 200) hx (dq tX7_pass 75 rfl) (by decide) ?_
              exact J_40 ((M_30 7 2) + 2) 61 61 (by omega) (by omega) (by omega) (by omega) (by omega) (by omega)
            · refine g_aload_n (n := 125) hx 3 (dq tX7_pass 62 rfl) rfl rfl ?_
              refine g_getI (n := 128) hx glX7_31 (sX7_4 (by decide)) (dq tX7_pass 63 rfl) rfl (fun h_69l h_69u => ?_)
              refine g_bipush (n := 130) hx (dq tX7_pass 64 rfl) rfl (by decide) ?_
              refine g_icmp_ne (n := 133) (t := 149) hx (dq tX7_pass 65 rfl) (by decide) rfl (zrI h_69l h_69u (by decide) (by decide)) ⟨by decide, by decide⟩ (fun c_70 => ?_) (fun c_70 => ?_)
              · refine g_aload_n (n := 150) hx 3 (dq tX7_pass 76 rfl) rfl rfl ?_
                refine g_getI (n := 153) hx glX7_31 (sX7_4 (by decide)) (dq tX7_pass 77 rfl) rfl (fun h_71l h_71u => ?_)
                refine g_bipush (n := 155) hx (dq tX7_pass 78 rfl) rfl (by decide) ?_
                refine g_icmp_lt (n := 158) (t := 176) hx (dq tX7_pass 79 rfl) (by decide) rfl (zrI h_71l h_71u (by decide) (by decide)) ⟨by decide, by decide⟩ (fun c_72 => ?_) (fun c_72 => ?_)
                · refine g_aload_n (n := 177) hx 3 (dq tX7_pass 89 rfl) rfl rfl ?_
                  refine g_getI (n := 180) hx glX7_31 (sX7_4 (by decide)) (dq tX7_pass 90 rfl) rfl (fun h_73l h_73u => ?_)
                  refine g_bipush (n := 182) hx (dq tX7_pass 91 rfl) rfl (by decide) ?_
                  refine g_icmp_lt (n := 185) (t := 200) hx (dq tX7_pass 92 rfl) (by decide) rfl (zrI h_73l h_73u (by decide) (by decide)) ⟨by decide, by decide⟩ (fun c_74 => ?_) (fun c_74 => ?_)
                  · exact J_40 (M_30 7 1) 256 256 (by omega) (by omega) (by omega) (by omega) (by omega) (by omega)
                  · refine g_aload_n (n := 186) hx 3 (dq tX7_pass 93 rfl) rfl rfl ?_
                    refine g_getI (n := 189) hx glX7_31 (sX7_4 (by decide)) (dq tX7_pass 94 rfl) rfl (fun h_75l h_75u => ?_)
                    refine g_bipush (n := 191) hx (dq tX7_pass 95 rfl) rfl (by decide) ?_
                    refine g_icmp_gt (n := 194) (t := 200) hx (dq tX7_pass 96 rfl) (by decide) rfl (zrI h_75l h_75u (by decide) (by decide)) ⟨by decide, by decide⟩ (fun c_76 => ?_) (fun c_76 => ?_)
                    · exact J_40 (M_30 7 1) 256 256 (by omega) (by omega) (by omega) (by omega) (by omega) (by omega)
                    · refine g_bipush (n := 196) hx (dq tX7_pass 97 rfl) rfl (by decide) ?_
                      refine g_istore_n (n := 197) (lv' := [(1, vI 48), (3, vI (M_30 7 1)), (2, vI 256), (0, aR Γ 7)]) hx (dq tX7_pass 98 rfl) (by decide) rfl rfl ?_
                      refine g_bipush (n := 199) hx (dq tX7_pass 99 rfl) rfl (by decide) ?_
                      refine g_istore_n (n := 200) (lv' := [(2, vI 57), (1, vI 48), (3, vI (M_30 7 1)), (0, aR Γ 7)]) hx (dq tX7_pass 100 rfl) (by decide) rfl rfl ?_
                      refine g_lv [2, 0, 1, 3] rfl ?_
                      exact J_40 (M_30 7 1) 57 48 (by omega) (by omega) (by omega) (by omega) (by omega) (by omega)
                · refine g_aload_n (n := 159) hx 3 (dq tX7_pass 80 rfl) rfl rfl ?_
                  refine g_getI (n := 162) hx glX7_31 (sX7_4 (by decide)) (dq tX7_pass 81 rfl) rfl (fun h_77l h_77u => ?_)
                  refine g_bipush (n := 164) hx (dq tX7_pass 82 rfl) rfl (by decide) ?_
                  refine g_icmp_gt (n := 167) (t := 176) hx (dq tX7_pass 83 rfl) (by decide) rfl (zrI h_77l h_77u (by decide) (by decide)) ⟨by decide, by decide⟩ (fun c_78 => ?_) (fun c_78 => ?_)
                  · refine g_aload_n (n := 177) hx 3 (dq tX7_pass 89 rfl) rfl rfl ?_
                    refine g_getI (n := 180) hx glX7_31 (sX7_4 (by decide)) (dq tX7_pass 90 rfl) rfl (fun h_79l h_79u => ?_)
                    refine g_bipush (n := 182) hx (dq tX7_pass 91 rfl) rfl (by decide) ?_
                    refine g_icmp_lt (n := 185) (t := 200) hx (dq tX7_pass 92 rfl) (by decide) rfl (zrI h_79l h_79u (by decide) (by decide)) ⟨by decide, by decide⟩ (fun c_80 => ?_) (fun c_80 => ?_)
                    · omega
                    · refine g_aload_n (n := 186) hx 3 (dq tX7_pass 93 rfl) rfl rfl ?_
                      refine g_getI (n := 189) hx glX7_31 (sX7_4 (by decide)) (dq tX7_pass 94 rfl) rfl (fun h_81l h_81u => ?_)
                      refine g_bipush (n := 191) hx (dq tX7_pass 95 rfl) rfl (by decide) ?_
                      refine g_icmp_gt (n := 194) (t := 200) hx (dq tX7_pass 96 rfl) (by decide) rfl (zrI h_81l h_81u (by decide) (by decide)) ⟨by decide, by decide⟩ (fun c_82 => ?_) (fun c_82 => ?_)
                      · exact J_40 (M_30 7 1) 256 256 (by omega) (by omega) (by omega) (by omega) (by omega) (by omega)
                      · omega
                  · refine g_bipush (n := 169) hx (dq tX7_pass 84 rfl) rfl (by decide) ?_
                    refine g_istore_n (n := 170) (lv' := [(1, vI 97), (3, vI (M_30 7 1)), (2, vI 256), (0, aR Γ 7)]) hx (dq tX7_pass 85 rfl) (by decide) rfl rfl ?_
                    refine g_bipush (n := 172) hx (dq tX7_pass 86 rfl) rfl (by decide) ?_
                    refine g_istore_n (n := 173) (lv' := [(2, vI 122), (1, vI 97), (3, vI (M_30 7 1)), (0, aR Γ 7)]) hx (dq tX7_pass 87 rfl) (by decide) rfl rfl ?_
                    refine g_goto (n := 200) hx (dq tX7_pass 88 rfl) (by decide) ?_
                    refine g_lv [2, 0, 1, 3] rfl ?_
                    exact J_40 (M_30 7 1) 122 97 (by omega) (by omega) (by omega) (by omega) (by omega) (by omega)
              · refine g_bipush (n := 135) hx (dq tX7_pass 66 rfl) rfl (by decide) ?_
                refine g_istore_n (n := 136) (lv' := [(1, vI 61), (3, vI (M_30 7 1)), (2, vI 256), (0, aR Γ 7)]) hx (dq tX7_pass 67 rfl) (by decide) rfl rfl ?_
                refine g_bipush (n := 138) hx (dq tX7_pass 68 rfl) rfl (by decide) ?_
                refine g_istore_n (n := 139) (lv' := [(2, vI 61), (1, vI 61), (3, vI (M_30 7 1)), (0, aR Γ 7)]) hx (dq tX7_pass 69 rfl) (by decide) rfl rfl ?_
                refine g_aload_n (n := 140) hx 3 (dq tX7_pass 70 rfl) rfl rfl ?_
                refine g_getI (n := 143) hx glX7_28 (sX7_2 (by decide)) (dq tX7_pass 71 rfl) rfl (fun h_83l h_83u => ?_)
                have e_84 : M_30 7 2 = M_19 7 2 := (m_31 7 2 (by omega))
                refine g_iconst (n := 144) hx (dq tX7_pass 72 rfl) rfl ?_
                refine g_iadd (n := 145) hx (dq tX7_pass 73 rfl) rfl ?_
                refine g_istore_n (n := 146) (lv' := [(3, vI ((M_30 7 2) + 2)), (2, vI 61), (1, vI 61), (0, aR Γ 7)]) hx (dq tX7_pass 74 rfl) (by decide) rfl rfl ?_
                refine g_goto (n := 200) hx (dq tX7_pass 75 rfl) (by decide) ?_
                exact J_40 ((M_30 7 2) + 2) 61 61 (by omega) (by omega) (by omega) (by omega) (by omega) (by omega)
          refine g_icmp_ge (n := 86) (t := 95) hx (dq tX7_pass 42 rfl) (by decide) rfl (zrI h_21l h_21u (by decide) (by decide)) (zrI h_23l h_23u (by decide) (by decide)) (fun c_25 => ?_) (fun c_25 => ?_)
          · refine g_aload_n (n := 96) hx 0 (dq tX7_pass 48 rfl) rfl rfl ?_
            refine g_getI (n := 99) hx glX7_15 (sX7_1 (by decide)) (dq tX7_pass 49 rfl) rfl (fun h_85l h_85u => ?_)
            exact J_27 (M_19 7 1) (by omega) (by omega)
          · refine g_aload_n (n := 87) hx 0 (dq tX7_pass 43 rfl) rfl rfl ?_
            refine g_getI (n := 90) hx glX7_28 (sX7_2 (by decide)) (dq tX7_pass 44 rfl) rfl (fun h_86l h_86u => ?_)
            refine g_iconst (n := 91) hx (dq tX7_pass 45 rfl) rfl ?_
            refine g_iadd (n := 92) hx (dq tX7_pass 46 rfl) rfl ?_
            refine g_goto (n := 99) hx (dq tX7_pass 47 rfl) (by decide) ?_
            exact J_27 ((M_19 7 2) + 1) (by omega) (by omega)
        refine g_icmp_ge (n := 58) (t := 70) hx (dq tX7_pass 28 rfl) (by decide) rfl (zrI h_12l h_12u (by decide) (by decide)) (zrI h_13l h_13u (by decide) (by decide)) (fun c_14 => ?_) (fun c_14 => ?_)
        · refine g_iconst (n := 71) hx (dq tX7_pass 35 rfl) rfl ?_
          exact J_16 (-1) (by omega) (by omega)
        · refine g_aload_n (n := 59) hx 0 (dq tX7_pass 29 rfl) rfl rfl ?_
          refine g_getR (n := 62) hx glX7_9 (sX7_0 (by decide)) (dq tX7_pass 30 rfl) rfl ?_
          refine g_aload_n (n := 63) hx 0 (dq tX7_pass 31 rfl) rfl rfl ?_
          refine g_getI (n := 66) hx glX7_28 (sX7_2 (by decide)) (dq tX7_pass 32 rfl) rfl (fun h_87l h_87u => ?_)
          refine g_iald (n := 67) (q := (M_4 7 2).toNat) hx (aX7_0 (b := 7) (by decide)) (dq tX7_pass 33 rfl) rfl (by omega) (by omega) (by omega) rfl (fun h_88l h_88u => ?_)
          refine g_goto (n := 71) hx (dq tX7_pass 34 rfl) (by decide) ?_
          exact J_16 (M_4 (7 + 1) ((M_4 7 2).toNat)) (by omega) (by omega)
      · refine g_aload_n (n := 20) hx 0 (dq tX7_pass 9 rfl) rfl rfl ?_
        refine g_getR (n := 23) hx glX7_9 (sX7_0 (by decide)) (dq tX7_pass 10 rfl) rfl ?_
        refine g_aload_n (n := 24) hx 0 (dq tX7_pass 11 rfl) rfl rfl ?_
        refine g_getI (n := 27) hx glX7_28 (sX7_2 (by decide)) (dq tX7_pass 12 rfl) rfl (fun h_89l h_89u => ?_)
        refine g_iald (n := 28) (q := (M_4 7 2).toNat) hx (aX7_0 (b := 7) (by decide)) (dq tX7_pass 13 rfl) rfl (by omega) (by omega) (by omega) rfl (fun h_90l h_90u => ?_)
        refine g_bipush (n := 30) hx (dq tX7_pass 14 rfl) rfl (by decide) ?_
        refine g_icmp_ne (n := 33) (t := 46) hx (dq tX7_pass 15 rfl) (by decide) rfl (zrI h_90l h_90u (by decide) (by decide)) ⟨by decide, by decide⟩ (fun c_91 => ?_) (fun c_91 => ?_)
        · refine g_aload_n (n := 47) hx 0 (dq tX7_pass 23 rfl) rfl rfl ?_
          refine g_aload_n (n := 48) hx 0 (dq tX7_pass 24 rfl) rfl rfl ?_
          refine g_getI (n := 51) hx glX7_28 (sX7_2 (by decide)) (dq tX7_pass 25 rfl) rfl (fun h_92l h_92u => ?_)
          refine g_aload_n (n := 52) hx 0 (dq tX7_pass 26 rfl) rfl rfl ?_
          refine g_getI (n := 55) hx glX7_15 (sX7_1 (by decide)) (dq tX7_pass 27 rfl) rfl (fun h_93l h_93u => ?_)
          have J_96 : ∀ (j_95 : Int),  ((-1) ≤ j_95) → (j_95 ≤ 255) → G Γ x 4 (QV Γ x (qctX7_pass M)) M_4 71 [(0, aR Γ 7)] [vI j_95, aR Γ 7] := by
            intro j_95 h_97 h_98
            refine g_putI (n := 74) hx plX7_31 (sX7_4 (by decide)) (dq tX7_pass 36 rfl) rfl (by omega) (by omega) (fun M_99 m_100e m_100 => ?_)
            refine g_aload_n (n := 75) hx 0 (dq tX7_pass 37 rfl) rfl rfl ?_
            refine g_aload_n (n := 76) hx 0 (dq tX7_pass 38 rfl) rfl rfl ?_
            refine g_getI (n := 79) hx glX7_28 (sX7_2 (by decide)) (dq tX7_pass 39 rfl) rfl (fun h_101l h_101u => ?_)
            have e_102 : M_99 7 2 = M_4 7 2 := (m_100 7 2 (by omega))
            refine g_aload_n (n := 80) hx 0 (dq tX7_pass 40 rfl) rfl rfl ?_
            refine g_getI (n := 83) hx glX7_15 (sX7_1 (by decide)) (dq tX7_pass 41 rfl) rfl (fun h_103l h_103u => ?_)
            have e_104 : M_99 7 1 = M_4 7 1 := (m_100 7 1 (by omega))
            have J_107 : ∀ (j_106 : Int),  (0 ≤ j_106) → (j_106 ≤ 400) → G Γ x 4 (QV Γ x (qctX7_pass M)) M_99 99 [(0, aR Γ 7)] [vI j_106, aR Γ 7] := by
              intro j_106 h_108 h_109
              refine g_putI (n := 102) hx plX7_22 (sX7_3 (by decide)) (dq tX7_pass 50 rfl) rfl (by omega) (by omega) (fun M_110 m_111e m_111 => ?_)
              refine g_sipush (n := 105) hx (dq tX7_pass 51 rfl) rfl (by decide) ?_
              refine g_istore_n (n := 106) (lv' := [(1, vI 256), (0, aR Γ 7)]) hx (dq tX7_pass 52 rfl) (by decide) rfl rfl ?_
              refine g_sipush (n := 109) hx (dq tX7_pass 53 rfl) rfl (by decide) ?_
              refine g_istore_n (n := 110) (lv' := [(2, vI 256), (1, vI 256), (0, aR Γ 7)]) hx (dq tX7_pass 54 rfl) (by decide) rfl rfl ?_
              refine g_aload_n (n := 111) hx 2 (dq tX7_pass 55 rfl) rfl rfl ?_
              refine g_getI (n := 114) hx glX7_15 (sX7_1 (by decide)) (dq tX7_pass 56 rfl) rfl (fun h_112l h_112u => ?_)
              have e_113 : M_110 7 1 = M_99 7 1 := (m_111 7 1 (by omega))
              refine g_istore_n (n := 115) (lv' := [(3, vI (M_110 7 1)), (2, vI 256), (1, vI 256), (0, aR Γ 7)]) hx (dq tX7_pass 57 rfl) (by decide) rfl rfl ?_
              refine g_aload_n (n := 116) hx 3 (dq tX7_pass 58 rfl) rfl rfl ?_
              refine g_getI (n := 119) hx glX7_31 (sX7_4 (by decide)) (dq tX7_pass 59 rfl) rfl (fun h_114l h_114u => ?_)
              have e_115 : M_110 7 4 = M_99 7 4 := (m_111 7 4 (by omega))
              refine g_bipush (n := 121) hx (dq tX7_pass 60 rfl) rfl (by decide) ?_
              have J_120 : ∀ (j_117 : Int) (j_118 : Int) (j_119 : Int),  (0 ≤ j_117) → (j_117 ≤ 402) → (57 ≤ j_118) → (j_118 ≤ 256) → (48 ≤ j_119) → (j_119 ≤ 256) → G Γ x 4 (QV Γ x (qctX7_pass M)) M_110 200 [(3, vI j_117), (2, vI j_118), (1, vI j_119), (0, aR Γ 7)] [] := by
                intro j_117 j_118 j_119 h_121 h_122 h_123 h_124 h_125 h_126
                have L_128 : ∀ (n_ : Nat) (M_127 : zM), (∀ u_ v_, (u_ ≠ 7 ∨ v_ ≠ 3) → M_127 u_ v_ = M_110 u_ v_) → ((400 - M_127 7 3).toNat = n_) → G Γ x 4 (QV Γ x (qctX7_pass M)) M_127 200 [(3, vI j_117), (2, vI j_118), (1, vI j_119), (0, aR Γ 7)] [] := by
                  intro n_
                  induction n_ using Nat.strongRecOn with
                  | _ n_ ih_129 =>
                    intro M_127 f_130 hm_131
                    refine g_aload_n (n := 201) hx 3 (dq tX7_pass 101 rfl) rfl rfl ?_
                    refine g_getI (n := 204) hx glX7_22 (sX7_3 (by decide)) (dq tX7_pass 102 rfl) rfl (fun h_132l h_132u => ?_)
                    refine g_aload_n (n := 205) hx 3 (dq tX7_pass 103 rfl) rfl rfl ?_
                    refine g_getI (n := 208) hx glX7_15 (sX7_1 (by decide)) (dq tX7_pass 104 rfl) rfl (fun h_133l h_133u => ?_)
                    have e_134 : M_127 7 1 = M_110 7 1 := (f_130 7 1 (by omega))
                    refine g_icmp_ge (n := 211) (t := 258) hx (dq tX7_pass 105 rfl) (by decide) rfl (zrI h_132l h_132u (by decide) (by decide)) (zrI h_133l h_133u (by decide) (by decide)) (fun c_135 => ?_) (fun c_135 => ?_)
                    · exact g_vret hx hr (dq tX7_pass 131 rfl) (fun u_ v_ huv_ => (((((f_130 u_ v_ (by omega)).trans (m_111 u_ v_ (by omega))).trans (m_100 u_ v_ (by omega))).trans (f_7 u_ v_ (by omega))).trans (m_3 u_ v_ (by omega))))
                    · refine g_aload_n (n := 212) hx 3 (dq tX7_pass 106 rfl) rfl rfl ?_
                      refine g_getI (n := 215) hx glX7_22 (sX7_3 (by decide)) (dq tX7_pass 107 rfl) rfl (fun h_136l h_136u => ?_)
                      refine g_iload_n (n := 216) hx 0 (dq tX7_pass 108 rfl) rfl rfl ?_
                      refine g_icmp_ge (n := 219) (t := 258) hx (dq tX7_pass 109 rfl) (by decide) rfl (zrI h_136l h_136u (by decide) (by decide)) ⟨by omega, by omega⟩ (fun c_137 => ?_) (fun c_137 => ?_)
                      · exact g_vret hx hr (dq tX7_pass 131 rfl) (fun u_ v_ huv_ => (((((f_130 u_ v_ (by omega)).trans (m_111 u_ v_ (by omega))).trans (m_100 u_ v_ (by omega))).trans (f_7 u_ v_ (by omega))).trans (m_3 u_ v_ (by omega))))
                      · refine g_aload_n (n := 220) hx 3 (dq tX7_pass 110 rfl) rfl rfl ?_
                        refine g_getR (n := 223) hx glX7_9 (sX7_0 (by decide)) (dq tX7_pass 111 rfl) rfl ?_
                        refine g_aload_n (n := 224) hx 3 (dq tX7_pass 112 rfl) rfl rfl ?_
                        refine g_getI (n := 227) hx glX7_22 (sX7_3 (by decide)) (dq tX7_pass 113 rfl) rfl (fun h_138l h_138u => ?_)
                        refine g_iald (n := 228) (q := (M_127 7 3).toNat) hx (aX7_0 (b := 7) (by decide)) (dq tX7_pass 114 rfl) rfl (by omega) (by omega) (by omega) rfl (fun h_139l h_139u => ?_)
                        refine g_iload_n (n := 229) hx 2 (dq tX7_pass 115 rfl) rfl rfl ?_
                        refine g_icmp_lt (n := 232) (t := 258) hx (dq tX7_pass 116 rfl) (by decide) rfl (zrI h_139l h_139u (by decide) (by decide)) ⟨by omega, by omega⟩ (fun c_140 => ?_) (fun c_140 => ?_)
                        · exact g_vret hx hr (dq tX7_pass 131 rfl) (fun u_ v_ huv_ => (((((f_130 u_ v_ (by omega)).trans (m_111 u_ v_ (by omega))).trans (m_100 u_ v_ (by omega))).trans (f_7 u_ v_ (by omega))).trans (m_3 u_ v_ (by omega))))
                        · refine g_aload_n (n := 233) hx 3 (dq tX7_pass 117 rfl) rfl rfl ?_
                          refine g_getR (n := 236) hx glX7_9 (sX7_0 (by decide)) (dq tX7_pass 118 rfl) rfl ?_
                          refine g_aload_n (n := 237) hx 3 (dq tX7_pass 119 rfl) rfl rfl ?_
                          refine g_getI (n := 240) hx glX7_22 (sX7_3 (by decide)) (dq tX7_pass 120 rfl) rfl (fun h_141l h_141u => ?_)
                          refine g_iald (n := 241) (q := (M_127 7 3).toNat) hx (aX7_0 (b := 7) (by decide)) (dq tX7_pass 121 rfl) rfl (by omega) (by omega) (by omega) rfl (fun h_142l h_142u => ?_)
                          refine g_iload_n (n := 242) hx 1 (dq tX7_pass 122 rfl) rfl rfl ?_
                          refine g_icmp_gt (n := 245) (t := 258) hx (dq tX7_pass 123 rfl) (by decide) rfl (zrI h_142l h_142u (by decide) (by decide)) ⟨by omega, by omega⟩ (fun c_143 => ?_) (fun c_143 => ?_)
                          · exact g_vret hx hr (dq tX7_pass 131 rfl) (fun u_ v_ huv_ => (((((f_130 u_ v_ (by omega)).trans (m_111 u_ v_ (by omega))).trans (m_100 u_ v_ (by omega))).trans (f_7 u_ v_ (by omega))).trans (m_3 u_ v_ (by omega))))
                          · refine g_aload_n (n := 246) hx 3 (dq tX7_pass 124 rfl) rfl rfl ?_
                            refine g_dup (n := 247) hx (dq tX7_pass 125 rfl) rfl rfl ?_
                            refine g_getI (n := 250) hx glX7_22 (sX7_3 (by decide)) (dq tX7_pass 126 rfl) rfl (fun h_144l h_144u => ?_)
                            refine g_iconst (n := 251) hx (dq tX7_pass 127 rfl) rfl ?_
                            refine g_iadd (n := 252) hx (dq tX7_pass 128 rfl) rfl ?_
                            refine g_putI (n := 255) hx plX7_22 (sX7_3 (by decide)) (dq tX7_pass 129 rfl) rfl (by omega) (by omega) (fun M_145 m_146e m_146 => ?_)
                            refine g_goto (n := 200) hx (dq tX7_pass 130 rfl) (by decide) ?_
                            exact ih_129 _ (by omega) M_145 (fun u_ v_ huv_ => ((m_146 u_ v_ (by omega)).trans (f_130 u_ v_ (by omega)))) rfl
                exact L_128 _ M_110 (fun _ _ _ => rfl) rfl
              refine g_icmp_eq (n := 124) (t := 133) hx (dq tX7_pass 61 rfl) (by decide) rfl (zrI h_114l h_114u (by decide) (by decide)) ⟨by decide, by decide⟩ (fun c_116 => ?_) (fun c_116 => ?_)
              · refine g_bipush (n := 135) hx (dq tX7_pass 66 rfl) rfl (by decide) ?_
                refine g_istore_n (n := 136) (lv' := [(1, vI 61), (3, vI (M_110 7 1)), (2, vI 256), (0, aR Γ 7)]) hx (dq tX7_pass 67 rfl) (by decide) rfl rfl ?_
                refine g_bipush (n := 138) hx (dq tX7_pass 68 rfl) rfl (by decide) ?_
                refine g_istore_n (n := 139) (lv' := [(2, vI 61), (1, vI 61), (3, vI (M_110 7 1)), (0, aR Γ 7)]) hx (dq tX7_pass 69 rfl) (by decide) rfl rfl ?_
                refine g_aload_n (n := 140) hx 3 (dq tX7_pass 70 rfl) rfl rfl ?_
                refine g_getI (n := 143) hx glX7_28 (sX7_2 (by decide)) (dq tX7_pass 71 rfl) rfl (fun h_147l h_147u => ?_)
                have e_148 : M_110 7 2 = M_99 7 2 := (m_111 7 2 (by omega))
                refine g_iconst (n := 144) hx (dq tX7_pass 72 rfl) rfl ?_
                refine g_iadd (n := 145) hx (dq tX7_pass 73 rfl) rfl ?_
                refine g_istore_n (n := 146) (lv' := [(3, vI ((M_110 7 2) + 2)), (2, vI 61), (1, vI 61), (0, aR Γ 7)]) hx (dq tX7_pass 74 rfl) (by decide) rfl rfl ?_
                refine g_goto (n := 200) hx (dq tX7_pass 75 rfl) (by decide) ?_
                exact J_120 ((M_110 7 2) + 2) 61 61 (by omega) (by omega) (by omega) (by omega) (by omega) (by omega)
              · refine g_aload_n (n := 125) hx 3 (dq tX7_pass 62 rfl) rfl rfl ?_
                refine g_getI (n := 128) hx glX7_31 (sX7_4 (by decide)) (dq tX7_pass 63 rfl) rfl (fun h_149l h_149u => ?_)
                refine g_bipush (n := 130) hx (dq tX7_pass 64 rfl) rfl (by decide) ?_
                refine g_icmp_ne (n := 133) (t := 149) hx (dq tX7_pass 65 rfl) (by decide) rfl (zrI h_149l h_149u (by decide) (by decide)) ⟨by decide, by decide⟩ (fun c_150 => ?_) (fun c_150 => ?_)
                · refine g_aload_n (n := 150) hx 3 (dq tX7_pass 76 rfl) rfl rfl ?_
                  refine g_getI (n := 153) hx glX7_31 (sX7_4 (by decide)) (dq tX7_pass 77 rfl) rfl (fun h_151l h_151u => ?_)
                  refine g_bipush (n := 155) hx (dq tX7_pass 78 rfl) rfl (by decide) ?_
                  refine g_icmp_lt (n := 158) (t := 176) hx (dq tX7_pass 79 rfl) (by decide) rfl (zrI h_151l h_151u (by decide) (by decide)) ⟨by decide, by decide⟩ (fun c_152 => ?_) (fun c_152 => ?_)
                  · refine g_aload_n (n := 177) hx 3 (dq tX7_pass 89 rfl) rfl rfl ?_
                    refine g_getI (n := 180) hx glX7_31 (sX7_4 (by decide)) (dq tX7_pass 90 rfl) rfl (fun h_153l h_153u => ?_)
                    refine g_bipush (n := 182) hx (dq tX7_pass 91 rfl) rfl (by decide) ?_
                    refine g_icmp_lt (n := 185) (t := 200) hx (dq tX7_pass 92 rfl) (by decide) rfl (zrI h_153l h_153u (by decide) (by decide)) ⟨by decide, by decide⟩ (fun c_154 => ?_) (fun c_154 => ?_)
                    · exact J_120 (M_110 7 1) 256 256 (by omega) (by omega) (by omega) (by omega) (by omega) (by omega)
                    · refine g_aload_n (n := 186) hx 3 (dq tX7_pass 93 rfl) rfl rfl ?_
                      refine g_getI (n := 189) hx glX7_31 (sX7_4 (by decide)) (dq tX7_pass 94 rfl) rfl (fun h_155l h_155u => ?_)
                      refine g_bipush (n := 191) hx (dq tX7_pass 95 rfl) rfl (by decide) ?_
                      refine g_icmp_gt (n := 194) (t := 200) hx (dq tX7_pass 96 rfl) (by decide) rfl (zrI h_155l h_155u (by decide) (by decide)) ⟨by decide, by decide⟩ (fun c_156 => ?_) (fun c_156 => ?_)
                      · exact J_120 (M_110 7 1) 256 256 (by omega) (by omega) (by omega) (by omega) (by omega) (by omega)
                      · refine g_bipush (n := 196) hx (dq tX7_pass 97 rfl) rfl (by decide) ?_
                        refine g_istore_n (n := 197) (lv' := [(1, vI 48), (3, vI (M_110 7 1)), (2, vI 256), (0, aR Γ 7)]) hx (dq tX7_pass 98 rfl) (by decide) rfl rfl ?_
                        refine g_bipush (n := 199) hx (dq tX7_pass 99 rfl) rfl (by decide) ?_
                        refine g_istore_n (n := 200) (lv' := [(2, vI 57), (1, vI 48), (3, vI (M_110 7 1)), (0, aR Γ 7)]) hx (dq tX7_pass 100 rfl) (by decide) rfl rfl ?_
                        refine g_lv [2, 0, 1, 3] rfl ?_
                        exact J_120 (M_110 7 1) 57 48 (by omega) (by omega) (by omega) (by omega) (by omega) (by omega)
                  · refine g_aload_n (n := 159) hx 3 (dq tX7_pass 80 rfl) rfl rfl ?_
                    refine g_getI (n := 162) hx glX7_31 (sX7_4 (by decide)) (dq tX7_pass 81 rfl) rfl (fun h_157l h_157u => ?_)
                    refine g_bipush (n := 164) hx (dq tX7_pass 82 rfl) rfl (by decide) ?_
                    refine g_icmp_gt (n := 167) (t := 176) hx (dq tX7_pass 83 rfl) (by decide) rfl (zrI h_157l h_157u (by decide) (by decide)) ⟨by decide, by decide⟩ (fun c_158 => ?_) (fun c_158 => ?_)
                    · refine g_aload_n (n := 177) hx 3 (dq tX7_pass 89 rfl) rfl rfl ?_
                      refine g_getI (n := 180) hx glX7_31 (sX7_4 (by decide)) (dq tX7_pass 90 rfl) rfl (fun h_159l h_159u => ?_)
                      refine g_bipush (n := 182) hx (dq tX7_pass 91 rfl) rfl (by decide) ?_
                      refine g_icmp_lt (n := 185) (t := 200) hx (dq tX7_pass 92 rfl) (by decide) rfl (zrI h_159l h_159u (by decide) (by decide)) ⟨by decide, by decide⟩ (fun c_160 => ?_) (fun c_160 => ?_)
                      · omega
                      · refine g_aload_n (n := 186) hx 3 (dq tX7_pass 93 rfl) rfl rfl ?_
                        refine g_getI (n := 189) hx glX7_31 (sX7_4 (by decide)) (dq tX7_pass 94 rfl) rfl (fun h_161l h_161u => ?_)
                        refine g_bipush (n := 191) hx (dq tX7_pass 95 rfl) rfl (by decide) ?_
                        refine g_icmp_gt (n := 194) (t := 200) hx (dq tX7_pass 96 rfl) (by decide) rfl (zrI h_161l h_161u (by decide) (by decide)) ⟨by decide, by decide⟩ (fun c_162 => ?_) (fun c_162 => ?_)
                        · exact J_120 (M_110 7 1) 256 256 (by omega) (by omega) (by omega) (by omega) (by omega) (by omega)
                        · omega
                    · refine g_bipush (n := 169) hx (dq tX7_pass 84 rfl) rfl (by decide) ?_
                      refine g_istore_n (n := 170) (lv' := [(1, vI 97), (3, vI (M_110 7 1)), (2, vI 256), (0, aR Γ 7)]) hx (dq tX7_pass 85 rfl) (by decide) rfl rfl ?_
                      refine g_bipush (n := 172) hx (dq tX7_pass 86 rfl) rfl (by decide) ?_
                      refine g_istore_n (n := 173) (lv' := [(2, vI 122), (1, vI 97), (3, vI (M_110 7 1)), (0, aR Γ 7)]) hx (dq tX7_pass 87 rfl) (by decide) rfl rfl ?_
                      refine g_goto (n := 200) hx (dq tX7_pass 88 rfl) (by decide) ?_
                      refine g_lv [2, 0, 1, 3] rfl ?_
                      exact J_120 (M_110 7 1) 122 97 (by omega) (by omega) (by omega) (by omega) (by omega) (by omega)
                · refine g_bipush (n := 135) hx (dq tX7_pass 66 rfl) rfl (by decide) ?_
                  refine g_istore_n (n := 136) (lv' := [(1, vI 61), (3, vI (M_110 7 1)), (2, vI 256), (0, aR Γ 7)]) hx (dq tX7_pass 67 rfl) (by decide) rfl rfl ?_
                  refine g_bipush (n := 138) hx (dq tX7_pass 68 rfl) rfl (by decide) ?_
                  refine g_istore_n (n := 139) (lv' := [(2, vI 61), (1, vI 61), (3, vI (M_110 7 1)), (0, aR Γ 7)]) hx (dq tX7_pass 69 rfl) (by decide) rfl rfl ?_
                  refine g_aload_n (n := 140) hx 3 (dq tX7_pass 70 rfl) rfl rfl ?_
                  refine g_getI (n := 143) hx glX7_28 (sX7_2 (by decide)) (dq tX7_pass 71 rfl) rfl (fun h_163l h_163u => ?_)
                  have e_164 : M_110 7 2 = M_99 7 2 := (m_111 7 2 (by omega))
                  refine g_iconst (n := 144) hx (dq tX7_pass 72 rfl) rfl ?_
                  refine g_iadd (n := 145) hx (dq tX7_pass 73 rfl) rfl ?_
                  refine g_istore_n (n := 146) (lv' := [(3, vI ((M_110 7 2) + 2)), (2, vI 61), (1, vI 61), (0, aR Γ 7)]) hx (dq tX7_pass 74 rfl) (by decide) rfl rfl ?_
                  refine g_goto (n := 200) hx (dq tX7_pass 75 rfl) (by decide) ?_
                  exact J_120 ((M_110 7 2) + 2) 61 61 (by omega) (by omega) (by omega) (by omega) (by omega) (by omega)
            refine g_icmp_ge (n := 86) (t := 95) hx (dq tX7_pass 42 rfl) (by decide) rfl (zrI h_101l h_101u (by decide) (by decide)) (zrI h_103l h_103u (by decide) (by decide)) (fun c_105 => ?_) (fun c_105 => ?_)
            · refine g_aload_n (n := 96) hx 0 (dq tX7_pass 48 rfl) rfl rfl ?_
              refine g_getI (n := 99) hx glX7_15 (sX7_1 (by decide)) (dq tX7_pass 49 rfl) rfl (fun h_165l h_165u => ?_)
              exact J_107 (M_99 7 1) (by omega) (by omega)
            · refine g_aload_n (n := 87) hx 0 (dq tX7_pass 43 rfl) rfl rfl ?_
              refine g_getI (n := 90) hx glX7_28 (sX7_2 (by decide)) (dq tX7_pass 44 rfl) rfl (fun h_166l h_166u => ?_)
              refine g_iconst (n := 91) hx (dq tX7_pass 45 rfl) rfl ?_
              refine g_iadd (n := 92) hx (dq tX7_pass 46 rfl) rfl ?_
              refine g_goto (n := 99) hx (dq tX7_pass 47 rfl) (by decide) ?_
              exact J_107 ((M_99 7 2) + 1) (by omega) (by omega)
          refine g_icmp_ge (n := 58) (t := 70) hx (dq tX7_pass 28 rfl) (by decide) rfl (zrI h_92l h_92u (by decide) (by decide)) (zrI h_93l h_93u (by decide) (by decide)) (fun c_94 => ?_) (fun c_94 => ?_)
          · refine g_iconst (n := 71) hx (dq tX7_pass 35 rfl) rfl ?_
            exact J_96 (-1) (by omega) (by omega)
          · refine g_aload_n (n := 59) hx 0 (dq tX7_pass 29 rfl) rfl rfl ?_
            refine g_getR (n := 62) hx glX7_9 (sX7_0 (by decide)) (dq tX7_pass 30 rfl) rfl ?_
            refine g_aload_n (n := 63) hx 0 (dq tX7_pass 31 rfl) rfl rfl ?_
            refine g_getI (n := 66) hx glX7_28 (sX7_2 (by decide)) (dq tX7_pass 32 rfl) rfl (fun h_167l h_167u => ?_)
            refine g_iald (n := 67) (q := (M_4 7 2).toNat) hx (aX7_0 (b := 7) (by decide)) (dq tX7_pass 33 rfl) rfl (by omega) (by omega) (by omega) rfl (fun h_168l h_168u => ?_)
            refine g_goto (n := 71) hx (dq tX7_pass 34 rfl) (by decide) ?_
            exact J_96 (M_4 (7 + 1) ((M_4 7 2).toNat)) (by omega) (by omega)
        · refine g_aload_n (n := 34) hx 0 (dq tX7_pass 16 rfl) rfl rfl ?_
          refine g_dup (n := 35) hx (dq tX7_pass 17 rfl) rfl rfl ?_
          refine g_getI (n := 38) hx glX7_28 (sX7_2 (by decide)) (dq tX7_pass 18 rfl) rfl (fun h_169l h_169u => ?_)
          refine g_iconst (n := 39) hx (dq tX7_pass 19 rfl) rfl ?_
          refine g_iadd (n := 40) hx (dq tX7_pass 20 rfl) rfl ?_
          refine g_putI (n := 43) hx plX7_28 (sX7_2 (by decide)) (dq tX7_pass 21 rfl) rfl (by omega) (by omega) (fun M_170 m_171e m_171 => ?_)
          refine g_goto (n := 8) hx (dq tX7_pass 22 rfl) (by decide) ?_
          exact ih_6 _ (by omega) M_170 (fun u_ v_ huv_ => ((m_171 u_ v_ (by omega)).trans (f_7 u_ v_ (by omega)))) rfl
  exact L_5 _ M_2 (fun _ _ _ => rfl) rfl

abbrev qctX7_rewind (M : zM)  (M' : zM) : Prop := (∀ u_ v_, (u_ ≠ 7 ∨ v_ ≠ 2) ∧ (u_ ≠ 7 ∨ v_ ≠ 3) ∧ (u_ ≠ 7 ∨ v_ ≠ 4) ∧ (u_ ≠ 7 ∨ v_ ≠ 5) → M' u_ v_ = M u_ v_) ∧ (M' 7 5 = 0)
set_option maxHeartbeats 4000000 in
set_option maxRecDepth 100000 in
theorem ctX7_rewind (Γ : Gam) (M : zM)   : CtV Γ yX7_rewind cX7_rewind 1 none 1 23 [aR Γ 7] M (qctX7_rewind M) := by
  refine met_v (by decide) (Nat.le_of_ble_eq_true rfl) (fun x hx hr => ?_)
  show G Γ x 1 (QV Γ x (qctX7_rewind M)) M 0 [(0, aR Γ 7)] []
  refine g_aload_n (n := 1) hx 0 (dq tX7_rewind 0 rfl) rfl rfl ?_
  refine g_iconst (n := 2) hx (dq tX7_rewind 1 rfl) rfl ?_
  refine g_putI (n := 5) hx plX7_19 (sX7_5 (by decide)) (dq tX7_rewind 2 rfl) rfl (by omega) (by omega) (fun M_1 m_2e m_2 => ?_)
  refine g_aload_n (n := 6) hx 0 (dq tX7_rewind 3 rfl) rfl rfl ?_
  refine g_iconst (n := 7) hx (dq tX7_rewind 4 rfl) rfl ?_
  refine g_putI (n := 10) hx plX7_22 (sX7_3 (by decide)) (dq tX7_rewind 5 rfl) rfl (by omega) (by omega) (fun M_3 m_4e m_4 => ?_)
  refine g_aload_n (n := 11) hx 0 (dq tX7_rewind 6 rfl) rfl rfl ?_
  refine g_callVv (n := 14) (As := []) (rest := []) hx (ctX7_pass Γ M_3 ) mlX7_25 (obX7 (by decide)) (dq tX7_rewind 7 rfl) rfl (Nat.le_of_ble_eq_true rfl) (Nat.le_of_ble_eq_true rfl) (Nat.le_of_ble_eq_true rfl) rfl (fun M_6 p_8 => ?_)
  have f_9 := p_8
  exact g_vret hx hr (dq tX7_rewind 8 rfl) ⟨(fun u_ v_ huv_ => (((f_9 u_ v_ (by omega)).trans (m_4 u_ v_ (by omega))).trans (m_2 u_ v_ (by omega)))), ((((f_9 7 5 (by omega)).trans (m_4 7 5 (by omega)))).trans m_2e)⟩

abbrev qctX7_fails (M : zM) (kind : Int) (z : Int) (M' : zM) : Prop := (∀ u_ v_, (u_ ≠ 7 ∨ v_ ≠ 5) → M' u_ v_ = M u_ v_) ∧ (z = 0) ∧ (1 ≤ M' 7 5)
set_option maxHeartbeats 4000000 in
set_option maxRecDepth 100000 in
theorem ctX7_fails (Γ : Gam) (M : zM) (kind : Int) (hkindl : 0 ≤ kind) (hkindu : kind ≤ 4)  : CtI Γ yX7_fails cX7_fails 2 (some .boolean) 0 0 [aR Γ 7, vI kind] M (qctX7_fails M kind) := by
  refine met_i (by decide) (Nat.le_of_ble_eq_true rfl) (fun x hx hr => ?_)
  show G Γ x 2 (QI Γ x (qctX7_fails M kind)) M 0 [(0, aR Γ 7), (1, vI kind)] []
  refine g_aload_n (n := 1) hx 0 (dq tX7_fails 0 rfl) rfl rfl ?_
  refine g_iconst (n := 2) hx (dq tX7_fails 1 rfl) rfl ?_
  refine g_bipush (n := 4) hx (dq tX7_fails 2 rfl) rfl (by decide) ?_
  refine g_aload_n (n := 5) hx 0 (dq tX7_fails 3 rfl) rfl rfl ?_
  refine g_getI (n := 8) hx glX7_28 (sX7_2 (by decide)) (dq tX7_fails 4 rfl) rfl (fun h_1l h_1u => ?_)
  refine g_imul (n := 9) hx (dq tX7_fails 5 rfl) rfl ?_
  refine g_iadd (n := 10) hx (dq tX7_fails 6 rfl) rfl ?_
  refine g_iload_n (n := 11) hx 1 (dq tX7_fails 7 rfl) rfl rfl ?_
  refine g_iadd (n := 12) hx (dq tX7_fails 8 rfl) rfl ?_
  refine g_putI (n := 15) hx plX7_19 (sX7_5 (by decide)) (dq tX7_fails 9 rfl) rfl (by omega) (by omega) (fun M_2 m_3e m_3 => ?_)
  refine g_iconst (n := 16) hx (dq tX7_fails 10 rfl) rfl ?_
  exact g_zret hx hr (dq tX7_fails 11 rfl) (by omega) ⟨(fun u_ v_ huv_ => (m_3 u_ v_ (by omega))), (by omega), (by omega)⟩

abbrev qctX7_isNumber (M : zM)  (z : Int) (M' : zM) : Prop := M = M' ∧ (z = 0 ∨ (z = 1))
set_option maxHeartbeats 4000000 in
set_option maxRecDepth 100000 in
theorem ctX7_isNumber (Γ : Gam) (M : zM)   : CtI Γ yX7_isNumber cX7_isNumber 1 (some .boolean) 0 0 [aR Γ 7] M (qctX7_isNumber M) := by
  refine met_i (by decide) (Nat.le_of_ble_eq_true rfl) (fun x hx hr => ?_)
  show G Γ x 1 (QI Γ x (qctX7_isNumber M)) M 0 [(0, aR Γ 7)] []
  refine g_aload_n (n := 1) hx 0 (dq tX7_isNumber 0 rfl) rfl rfl ?_
  refine g_getI (n := 4) hx glX7_31 (sX7_4 (by decide)) (dq tX7_isNumber 1 rfl) rfl (fun h_1l h_1u => ?_)
  refine g_bipush (n := 6) hx (dq tX7_isNumber 2 rfl) rfl (by decide) ?_
  refine g_icmp_lt (n := 9) (t := 22) hx (dq tX7_isNumber 3 rfl) (by decide) rfl (zrI h_1l h_1u (by decide) (by decide)) ⟨by decide, by decide⟩ (fun c_2 => ?_) (fun c_2 => ?_)
  · refine g_iconst (n := 23) hx (dq tX7_isNumber 10 rfl) rfl ?_
    exact g_zret hx hr (dq tX7_isNumber 11 rfl) (by omega) ⟨rfl, (by omega)⟩
  · refine g_aload_n (n := 10) hx 0 (dq tX7_isNumber 4 rfl) rfl rfl ?_
    refine g_getI (n := 13) hx glX7_31 (sX7_4 (by decide)) (dq tX7_isNumber 5 rfl) rfl (fun h_3l h_3u => ?_)
    refine g_bipush (n := 15) hx (dq tX7_isNumber 6 rfl) rfl (by decide) ?_
    refine g_icmp_gt (n := 18) (t := 22) hx (dq tX7_isNumber 7 rfl) (by decide) rfl (zrI h_3l h_3u (by decide) (by decide)) ⟨by decide, by decide⟩ (fun c_4 => ?_) (fun c_4 => ?_)
    · refine g_iconst (n := 23) hx (dq tX7_isNumber 10 rfl) rfl ?_
      exact g_zret hx hr (dq tX7_isNumber 11 rfl) (by omega) ⟨rfl, (by omega)⟩
    · refine g_iconst (n := 19) hx (dq tX7_isNumber 8 rfl) rfl ?_
      refine g_goto (n := 23) hx (dq tX7_isNumber 9 rfl) (by decide) ?_
      exact g_zret hx hr (dq tX7_isNumber 11 rfl) (by omega) ⟨rfl, (by omega)⟩

abbrev qctX7_number (M : zM)  (z : Int) (M' : zM) : Prop := M = M'
set_option maxHeartbeats 4000000 in
set_option maxRecDepth 100000 in
theorem ctX7_number (Γ : Gam) (M : zM)   : CtI Γ yX7_number cX7_number 3 (some .int) 0 0 [aR Γ 7] M (qctX7_number M) := by
  refine met_i (by decide) (Nat.le_of_ble_eq_true rfl) (fun x hx hr => ?_)
  show G Γ x 3 (QI Γ x (qctX7_number M)) M 0 [(0, aR Γ 7)] []
  refine g_aload_n (n := 1) hx 0 (dq tX7_number 0 rfl) rfl rfl ?_
  refine g_getI (n := 4) hx glX7_22 (sX7_3 (by decide)) (dq tX7_number 1 rfl) rfl (fun h_1l h_1u => ?_)
  refine g_aload_n (n := 5) hx 0 (dq tX7_number 2 rfl) rfl rfl ?_
  refine g_getI (n := 8) hx glX7_28 (sX7_2 (by decide)) (dq tX7_number 3 rfl) rfl (fun h_2l h_2u => ?_)
  refine g_isub (n := 9) hx (dq tX7_number 4 rfl) rfl ?_
  refine g_iconst (n := 10) hx (dq tX7_number 5 rfl) rfl ?_
  refine g_icmp_le (n := 13) (t := 15) hx (dq tX7_number 6 rfl) (by decide) rfl ⟨by omega, by omega⟩ ⟨by decide, by decide⟩ (fun c_3 => ?_) (fun c_3 => ?_)
  · refine g_iconst (n := 16) hx (dq tX7_number 9 rfl) rfl ?_
    refine g_istore_n (n := 17) (lv' := [(1, vI 0), (0, aR Γ 7)]) hx (dq tX7_number 10 rfl) (by decide) rfl rfl ?_
    refine g_aload_n (n := 18) hx 1 (dq tX7_number 11 rfl) rfl rfl ?_
    refine g_getI (n := 21) hx glX7_28 (sX7_2 (by decide)) (dq tX7_number 12 rfl) rfl (fun h_4l h_4u => ?_)
    refine g_istore_n (n := 22) (lv' := [(2, vI (M 7 2)), (1, vI 0), (0, aR Γ 7)]) hx (dq tX7_number 13 rfl) (by decide) rfl rfl ?_
    have L_7 : ∀ (n_ : Nat) (i_5 : Int) (i_6 : Int), (0 ≤ i_5) → (i_5 ≤ 400) → ((-2147483648) ≤ i_6) → (i_6 ≤ 2147483647) → ((400 - i_5).toNat = n_) → G Γ x 3 (QI Γ x (qctX7_number M)) M 22 [(2, vI i_5), (1, vI i_6), (0, aR Γ 7)] [] := by
      intro n_
      induction n_ using Nat.strongRecOn with
      | _ n_ ih_8 =>
        intro i_5 i_6 h_11 h_12 h_13 h_14 hm_10
        refine g_iload_n (n := 23) hx 0 (dq tX7_number 14 rfl) rfl rfl ?_
        refine g_aload_n (n := 24) hx 2 (dq tX7_number 15 rfl) rfl rfl ?_
        refine g_getI (n := 27) hx glX7_22 (sX7_3 (by decide)) (dq tX7_number 16 rfl) rfl (fun h_15l h_15u => ?_)
        refine g_icmp_ge (n := 30) (t := 51) hx (dq tX7_number 17 rfl) (by decide) rfl ⟨by omega, by omega⟩ (zrI h_15l h_15u (by decide) (by decide)) (fun c_16 => ?_) (fun c_16 => ?_)
        · refine g_iload_n (n := 52) hx 1 (dq tX7_number 31 rfl) rfl rfl ?_
          exact g_iret hx hr (dq tX7_number 32 rfl) ⟨by omega, by omega⟩ rfl
        · refine g_iload_n (n := 31) hx 1 (dq tX7_number 18 rfl) rfl rfl ?_
          refine g_bipush (n := 33) hx (dq tX7_number 19 rfl) rfl (by decide) ?_
          refine g_imul (n := 34) hx (dq tX7_number 20 rfl) rfl ?_
          refine g_aload_n (n := 35) hx 2 (dq tX7_number 21 rfl) rfl rfl ?_
          refine g_getR (n := 38) hx glX7_9 (sX7_0 (by decide)) (dq tX7_number 22 rfl) rfl ?_
          refine g_iload_n (n := 39) hx 0 (dq tX7_number 23 rfl) rfl rfl ?_
          refine g_iald (n := 40) (q := i_5.toNat) hx (aX7_0 (b := 7) (by decide)) (dq tX7_number 24 rfl) rfl (by omega) (by omega) (by omega) rfl (fun h_17l h_17u => ?_)
          refine g_iadd (n := 41) hx (dq tX7_number 25 rfl) rfl ?_
          refine g_bipush (n := 43) hx (dq tX7_number 26 rfl) rfl (by decide) ?_
          refine g_isub (n := 44) hx (dq tX7_number 27 rfl) rfl ?_
          refine g_any (fun z_18 h_19 => ?_)
          refine g_istore_n (n := 45) (lv' := [(1, vI z_18), (2, vI i_5), (0, aR Γ 7)]) hx (dq tX7_number 28 rfl) (by decide) rfl rfl ?_
          refine g_iinc (n := 48) (lv' := [(2, vI (i_5 + 1)), (1, vI z_18), (0, aR Γ 7)]) hx 1 (dq tX7_number 29 rfl) rfl (by decide) rfl rfl ?_
          refine g_goto (n := 22) hx (dq tX7_number 30 rfl) (by decide) ?_
          exact ih_8 _ (by omega) (i_5 + 1) z_18 (by omega) (by omega) (by omega) (by omega) rfl
    exact L_7 _ (M 7 2) 0 (by omega) (by omega) (by omega) (by omega) rfl
  · refine g_iconst (n := 14) hx (dq tX7_number 7 rfl) rfl ?_
    exact g_iret hx hr (dq tX7_number 8 rfl) ⟨by decide, by decide⟩ rfl

abbrev qctX7_isLong (M : zM)  (z : Int) (M' : zM) : Prop := M = M' ∧ (z = 0 ∨ (z = 1))
set_option maxHeartbeats 4000000 in
set_option maxRecDepth 100000 in
theorem ctX7_isLong (Γ : Gam) (M : zM)   : CtI Γ yX7_isLong cX7_isLong 1 (some .boolean) 0 0 [aR Γ 7] M (qctX7_isLong M) := by
  refine met_i (by decide) (Nat.le_of_ble_eq_true rfl) (fun x hx hr => ?_)
  show G Γ x 1 (QI Γ x (qctX7_isLong M)) M 0 [(0, aR Γ 7)] []
  refine g_aload_n (n := 1) hx 0 (dq tX7_isLong 0 rfl) rfl rfl ?_
  refine g_getI (n := 4) hx glX7_22 (sX7_3 (by decide)) (dq tX7_isLong 1 rfl) rfl (fun h_1l h_1u => ?_)
  refine g_aload_n (n := 5) hx 0 (dq tX7_isLong 2 rfl) rfl rfl ?_
  refine g_getI (n := 8) hx glX7_28 (sX7_2 (by decide)) (dq tX7_isLong 3 rfl) rfl (fun h_2l h_2u => ?_)
  refine g_isub (n := 9) hx (dq tX7_isLong 4 rfl) rfl ?_
  refine g_iconst (n := 10) hx (dq tX7_isLong 5 rfl) rfl ?_
  refine g_icmp_le (n := 13) (t := 17) hx (dq tX7_isLong 6 rfl) (by decide) rfl ⟨by omega, by omega⟩ ⟨by decide, by decide⟩ (fun c_3 => ?_) (fun c_3 => ?_)
  · refine g_iconst (n := 18) hx (dq tX7_isLong 9 rfl) rfl ?_
    exact g_zret hx hr (dq tX7_isLong 10 rfl) (by omega) ⟨rfl, (by omega)⟩
  · refine g_iconst (n := 14) hx (dq tX7_isLong 7 rfl) rfl ?_
    refine g_goto (n := 18) hx (dq tX7_isLong 8 rfl) (by decide) ?_
    exact g_zret hx hr (dq tX7_isLong 10 rfl) (by omega) ⟨rfl, (by omega)⟩

abbrev qctX7_wordIn (M : zM) (w : Nat) (z : Int) (M' : zM) : Prop := M = M'
set_option maxHeartbeats 4000000 in
set_option maxRecDepth 100000 in
theorem ctX7_wordIn (Γ : Gam) (M : zM) (w : Nat) (qw : String × Nat × String × Nat) (hw : sN[w]? = some qw) (hwn : qw.2.2.2 ≤ 100)  : CtI Γ yX7_wordIn cX7_wordIn 6 (some .int) 4 85 [aR Γ 7, sR Γ w] M (qctX7_wordIn M w) := by
  refine met_i (by decide) (Nat.le_of_ble_eq_true rfl) (fun x hx hr => ?_)
  show G Γ x 6 (QI Γ x (qctX7_wordIn M w)) M 0 [(0, aR Γ 7), (1, sR Γ w)] []
  refine g_aload_n (n := 1) hx 0 (dq tX7_wordIn 0 rfl) rfl rfl ?_
  refine g_getI (n := 4) hx glX7_22 (sX7_3 (by decide)) (dq tX7_wordIn 1 rfl) rfl (fun h_1l h_1u => ?_)
  refine g_aload_n (n := 5) hx 0 (dq tX7_wordIn 2 rfl) rfl rfl ?_
  refine g_getI (n := 8) hx glX7_28 (sX7_2 (by decide)) (dq tX7_wordIn 3 rfl) rfl (fun h_2l h_2u => ?_)
  refine g_isub (n := 9) hx (dq tX7_wordIn 4 rfl) rfl ?_
  refine g_istore_n (n := 10) (lv' := [(2, vI ((M 7 3) - (M 7 2))), (0, aR Γ 7), (1, sR Γ w)]) hx (dq tX7_wordIn 5 rfl) (by decide) rfl rfl ?_
  refine g_iconst (n := 11) hx (dq tX7_wordIn 6 rfl) rfl ?_
  refine g_istore_n (n := 12) (lv' := [(3, vI 0), (2, vI ((M 7 3) - (M 7 2))), (0, aR Γ 7), (1, sR Γ w)]) hx (dq tX7_wordIn 7 rfl) (by decide) rfl rfl ?_
  refine g_iconst (n := 13) hx (dq tX7_wordIn 8 rfl) rfl ?_
  refine g_istore (n := 15) (lv' := [(4, vI 0), (3, vI 0), (2, vI ((M 7 3) - (M 7 2))), (0, aR Γ 7), (1, sR Γ w)]) hx (dq tX7_wordIn 9 rfl) (by decide) rfl rfl ?_
  refine g_iconst (n := 16) hx (dq tX7_wordIn 10 rfl) rfl ?_
  refine g_istore (n := 18) (lv' := [(5, vI 0), (4, vI 0), (3, vI 0), (2, vI ((M 7 3) - (M 7 2))), (0, aR Γ 7), (1, sR Γ w)]) hx (dq tX7_wordIn 11 rfl) (by decide) rfl rfl ?_
  have L_6 : ∀ (n_ : Nat) (i_3 : Int) (i_4 : Int) (i_5 : Int), (0 ≤ i_3) → (i_3 ≤ 101) → ((-1) ≤ i_4) → (i_4 ≤ 400) → ((-2147483648) ≤ i_5) → (i_5 ≤ 2147483647) → ((101 - i_3).toNat = n_) → G Γ x 6 (QI Γ x (qctX7_wordIn M w)) M 18 [(5, vI i_3), (4, vI i_4), (3, vI i_5), (2, vI ((M 7 3) - (M 7 2))), (0, aR Γ 7), (1, sR Γ w)] [] := by
    intro n_
    induction n_ using Nat.strongRecOn with
    | _ n_ ih_7 =>
      intro i_3 i_4 i_5 h_10 h_11 h_12 h_13 h_14 h_15 hm_9
      refine g_iload (n := 20) hx 0 (dq tX7_wordIn 12 rfl) rfl rfl ?_
      refine g_aload_nS (n := 21) hx 5 (dq tX7_wordIn 13 rfl) rfl rfl ?_
      refine g_callSt (n := 24) (As := []) (rest := [vI i_3]) hx (ctJ0_length_8abf5 Γ M w _ hw) mlX7_34 rfl hw (dq tX7_wordIn 14 rfl) rfl (Nat.le_of_ble_eq_true rfl) (Nat.le_of_ble_eq_true rfl) (Nat.le_of_ble_eq_true rfl) rfl (fun z_16 M_17 h_18 p_19 => ?_)
      obtain ⟨rfl, h_20⟩ := p_19
      refine g_icmp_gt (n := 27) (t := 116) hx (dq tX7_wordIn 15 rfl) (by decide) rfl ⟨by omega, by omega⟩ h_18 (fun c_21 => ?_) (fun c_21 => ?_)
      · refine g_iconst (n := 117) hx (dq tX7_wordIn 60 rfl) rfl ?_
        exact g_iret hx hr (dq tX7_wordIn 61 rfl) ⟨by decide, by decide⟩ rfl
      · refine g_iload_n (n := 28) hx 3 (dq tX7_wordIn 16 rfl) rfl rfl ?_
        refine g_if_le (n := 31) (t := 116) hx (dq tX7_wordIn 17 rfl) (by decide) rfl ⟨by omega, by omega⟩ (fun c_22 => ?_) (fun c_22 => ?_)
        · refine g_iconst (n := 117) hx (dq tX7_wordIn 60 rfl) rfl ?_
          exact g_iret hx hr (dq tX7_wordIn 61 rfl) ⟨by decide, by decide⟩ rfl
        · refine g_iload (n := 33) hx 0 (dq tX7_wordIn 18 rfl) rfl rfl ?_
          refine g_aload_nS (n := 34) hx 5 (dq tX7_wordIn 19 rfl) rfl rfl ?_
          refine g_callSt (n := 37) (As := []) (rest := [vI i_3]) hx (ctJ0_length_8abf5 Γ M w _ hw) mlX7_34 rfl hw (dq tX7_wordIn 20 rfl) rfl (Nat.le_of_ble_eq_true rfl) (Nat.le_of_ble_eq_true rfl) (Nat.le_of_ble_eq_true rfl) rfl (fun z_23 M_24 h_25 p_26 => ?_)
          obtain ⟨rfl, h_27⟩ := p_26
          refine g_icmp_eq (n := 40) (t := 51) hx (dq tX7_wordIn 21 rfl) (by decide) rfl ⟨by omega, by omega⟩ h_25 (fun c_28 => ?_) (fun c_28 => ?_)
          · refine g_iload (n := 53) hx 1 (dq tX7_wordIn 27 rfl) rfl rfl ?_
            refine g_iload_n (n := 54) hx 3 (dq tX7_wordIn 28 rfl) rfl rfl ?_
            refine g_icmp_ne (n := 57) (t := 59) hx (dq tX7_wordIn 29 rfl) (by decide) rfl ⟨by omega, by omega⟩ ⟨by omega, by omega⟩ (fun c_29 => ?_) (fun c_29 => ?_)
            · refine g_iinc (n := 62) (lv' := [(3, vI (i_5 + 1)), (5, vI i_3), (4, vI i_4), (2, vI ((M 7 3) - (M 7 2))), (0, aR Γ 7), (1, sR Γ w)]) hx 2 (dq tX7_wordIn 32 rfl) rfl (by decide) rfl rfl ?_
              refine g_anyl (fun z_30 h_31 => ?_)
              refine g_iconst (n := 63) hx (dq tX7_wordIn 33 rfl) rfl ?_
              refine g_istore (n := 65) (lv' := [(4, vI 0), (3, vI z_30), (5, vI i_3), (2, vI ((M 7 3) - (M 7 2))), (0, aR Γ 7), (1, sR Γ w)]) hx (dq tX7_wordIn 34 rfl) (by decide) rfl rfl ?_
              refine g_goto (n := 110) hx (dq tX7_wordIn 35 rfl) (by decide) ?_
              refine g_iinc (n := 113) (lv' := [(5, vI (i_3 + 1)), (4, vI 0), (3, vI z_30), (2, vI ((M 7 3) - (M 7 2))), (0, aR Γ 7), (1, sR Γ w)]) hx 2 (dq tX7_wordIn 58 rfl) rfl (by decide) rfl rfl ?_
              refine g_goto (n := 18) hx (dq tX7_wordIn 59 rfl) (by decide) ?_
              exact ih_7 _ (by omega) (i_3 + 1) 0 z_30 (by omega) (by omega) (by omega) (by omega) (by omega) (by omega) rfl
            · refine g_iload_n (n := 58) hx 2 (dq tX7_wordIn 30 rfl) rfl rfl ?_
              exact g_iret hx hr (dq tX7_wordIn 31 rfl) ⟨by omega, by omega⟩ rfl
          · refine g_aload_nS (n := 41) hx 5 (dq tX7_wordIn 22 rfl) rfl rfl ?_
            refine g_iload (n := 43) hx 0 (dq tX7_wordIn 23 rfl) rfl rfl ?_
            refine g_callSt (n := 46) (As := [vI i_3]) (rest := []) hx (ctJ0_charAt_5068e Γ M w _ hw i_3 (by omega) (by omega)) mlX7_40 rfl hw (dq tX7_wordIn 24 rfl) rfl (Nat.le_of_ble_eq_true rfl) (Nat.le_of_ble_eq_true rfl) (Nat.le_of_ble_eq_true rfl) rfl (fun z_32 M_33 h_34 p_35 => ?_)
            obtain ⟨rfl, h_361, h_362⟩ := p_35
            refine g_bipush (n := 48) hx (dq tX7_wordIn 25 rfl) rfl (by decide) ?_
            refine g_icmp_ne (n := 51) (t := 68) hx (dq tX7_wordIn 26 rfl) (by decide) rfl h_34 ⟨by decide, by decide⟩ (fun c_37 => ?_) (fun c_37 => ?_)
            · refine g_iload (n := 70) hx 1 (dq tX7_wordIn 36 rfl) rfl rfl ?_
              refine g_if_lt (n := 73) (t := 110) hx (dq tX7_wordIn 37 rfl) (by decide) rfl ⟨by omega, by omega⟩ (fun c_38 => ?_) (fun c_38 => ?_)
              · refine g_iinc (n := 113) (lv' := [(5, vI (i_3 + 1)), (4, vI i_4), (3, vI i_5), (2, vI ((M 7 3) - (M 7 2))), (0, aR Γ 7), (1, sR Γ w)]) hx 0 (dq tX7_wordIn 58 rfl) rfl (by decide) rfl rfl ?_
                refine g_goto (n := 18) hx (dq tX7_wordIn 59 rfl) (by decide) ?_
                exact ih_7 _ (by omega) (i_3 + 1) i_4 i_5 (by omega) (by omega) (by omega) (by omega) (by omega) (by omega) rfl
              · refine g_iload (n := 75) hx 1 (dq tX7_wordIn 38 rfl) rfl rfl ?_
                refine g_iload_n (n := 76) hx 3 (dq tX7_wordIn 39 rfl) rfl rfl ?_
                refine g_icmp_ge (n := 79) (t := 107) hx (dq tX7_wordIn 40 rfl) (by decide) rfl ⟨by omega, by omega⟩ ⟨by omega, by omega⟩ (fun c_39 => ?_) (fun c_39 => ?_)
                · refine g_iconst (n := 108) hx (dq tX7_wordIn 56 rfl) rfl ?_
                  refine g_istore (n := 110) (lv' := [(4, vI (-1)), (5, vI i_3), (3, vI i_5), (2, vI ((M 7 3) - (M 7 2))), (0, aR Γ 7), (1, sR Γ w)]) hx (dq tX7_wordIn 57 rfl) (by decide) rfl rfl ?_
                  refine g_iinc (n := 113) (lv' := [(5, vI (i_3 + 1)), (4, vI (-1)), (3, vI i_5), (2, vI ((M 7 3) - (M 7 2))), (0, aR Γ 7), (1, sR Γ w)]) hx 1 (dq tX7_wordIn 58 rfl) rfl (by decide) rfl rfl ?_
                  refine g_goto (n := 18) hx (dq tX7_wordIn 59 rfl) (by decide) ?_
                  exact ih_7 _ (by omega) (i_3 + 1) (-1) i_5 (by omega) (by omega) (by omega) (by omega) (by omega) (by omega) rfl
                · refine g_aload_n (n := 80) hx 4 (dq tX7_wordIn 41 rfl) rfl rfl ?_
                  refine g_getR (n := 83) hx glX7_9 (sX7_0 (by decide)) (dq tX7_wordIn 42 rfl) rfl ?_
                  refine g_aload_n (n := 84) hx 4 (dq tX7_wordIn 43 rfl) rfl rfl ?_
                  refine g_getI (n := 87) hx glX7_28 (sX7_2 (by decide)) (dq tX7_wordIn 44 rfl) rfl (fun h_40l h_40u => ?_)
                  refine g_iload (n := 89) hx 1 (dq tX7_wordIn 45 rfl) rfl rfl ?_
                  refine g_iadd (n := 90) hx (dq tX7_wordIn 46 rfl) rfl ?_
                  refine g_iald (n := 91) (q := ((M 7 2) + i_4).toNat) hx (aX7_0 (b := 7) (by decide)) (dq tX7_wordIn 47 rfl) rfl (by omega) (by omega) (by omega) rfl (fun h_41l h_41u => ?_)
                  refine g_aload_nS (n := 92) hx 5 (dq tX7_wordIn 48 rfl) rfl rfl ?_
                  refine g_iload (n := 94) hx 0 (dq tX7_wordIn 49 rfl) rfl rfl ?_
                  refine g_callSt (n := 97) (As := [vI i_3]) (rest := [vI (M (7 + 1) (((M 7 2) + i_4).toNat))]) hx (ctJ0_charAt_5068e Γ M w _ hw i_3 (by omega) (by omega)) mlX7_40 rfl hw (dq tX7_wordIn 50 rfl) rfl (Nat.le_of_ble_eq_true rfl) (Nat.le_of_ble_eq_true rfl) (Nat.le_of_ble_eq_true rfl) rfl (fun z_42 M_43 h_44 p_45 => ?_)
                  obtain ⟨rfl, h_461, h_462⟩ := p_45
                  refine g_icmp_ne (n := 100) (t := 107) hx (dq tX7_wordIn 51 rfl) (by decide) rfl (zrI h_41l h_41u (by decide) (by decide)) h_44 (fun c_47 => ?_) (fun c_47 => ?_)
                  · refine g_iconst (n := 108) hx (dq tX7_wordIn 56 rfl) rfl ?_
                    refine g_istore (n := 110) (lv' := [(4, vI (-1)), (5, vI i_3), (3, vI i_5), (2, vI ((M 7 3) - (M 7 2))), (0, aR Γ 7), (1, sR Γ w)]) hx (dq tX7_wordIn 57 rfl) (by decide) rfl rfl ?_
                    refine g_iinc (n := 113) (lv' := [(5, vI (i_3 + 1)), (4, vI (-1)), (3, vI i_5), (2, vI ((M 7 3) - (M 7 2))), (0, aR Γ 7), (1, sR Γ w)]) hx 1 (dq tX7_wordIn 58 rfl) rfl (by decide) rfl rfl ?_
                    refine g_goto (n := 18) hx (dq tX7_wordIn 59 rfl) (by decide) ?_
                    exact ih_7 _ (by omega) (i_3 + 1) (-1) i_5 (by omega) (by omega) (by omega) (by omega) (by omega) (by omega) rfl
                  · refine g_iload (n := 102) hx 1 (dq tX7_wordIn 52 rfl) rfl rfl ?_
                    refine g_iconst (n := 103) hx (dq tX7_wordIn 53 rfl) rfl ?_
                    refine g_iadd (n := 104) hx (dq tX7_wordIn 54 rfl) rfl ?_
                    refine g_goto (n := 108) hx (dq tX7_wordIn 55 rfl) (by decide) ?_
                    refine g_istore (n := 110) (lv' := [(4, vI (i_4 + 1)), (5, vI i_3), (3, vI i_5), (2, vI ((M 7 3) - (M 7 2))), (0, aR Γ 7), (1, sR Γ w)]) hx (dq tX7_wordIn 57 rfl) (by decide) rfl rfl ?_
                    refine g_iinc (n := 113) (lv' := [(5, vI (i_3 + 1)), (4, vI (i_4 + 1)), (3, vI i_5), (2, vI ((M 7 3) - (M 7 2))), (0, aR Γ 7), (1, sR Γ w)]) hx 1 (dq tX7_wordIn 58 rfl) rfl (by decide) rfl rfl ?_
                    refine g_goto (n := 18) hx (dq tX7_wordIn 59 rfl) (by decide) ?_
                    exact ih_7 _ (by omega) (i_3 + 1) (i_4 + 1) i_5 (by omega) (by omega) (by omega) (by omega) (by omega) (by omega) rfl
            · refine g_iload (n := 53) hx 1 (dq tX7_wordIn 27 rfl) rfl rfl ?_
              refine g_iload_n (n := 54) hx 3 (dq tX7_wordIn 28 rfl) rfl rfl ?_
              refine g_icmp_ne (n := 57) (t := 59) hx (dq tX7_wordIn 29 rfl) (by decide) rfl ⟨by omega, by omega⟩ ⟨by omega, by omega⟩ (fun c_48 => ?_) (fun c_48 => ?_)
              · refine g_iinc (n := 62) (lv' := [(3, vI (i_5 + 1)), (5, vI i_3), (4, vI i_4), (2, vI ((M 7 3) - (M 7 2))), (0, aR Γ 7), (1, sR Γ w)]) hx 2 (dq tX7_wordIn 32 rfl) rfl (by decide) rfl rfl ?_
                refine g_anyl (fun z_49 h_50 => ?_)
                refine g_iconst (n := 63) hx (dq tX7_wordIn 33 rfl) rfl ?_
                refine g_istore (n := 65) (lv' := [(4, vI 0), (3, vI z_49), (5, vI i_3), (2, vI ((M 7 3) - (M 7 2))), (0, aR Γ 7), (1, sR Γ w)]) hx (dq tX7_wordIn 34 rfl) (by decide) rfl rfl ?_
                refine g_goto (n := 110) hx (dq tX7_wordIn 35 rfl) (by decide) ?_
                refine g_iinc (n := 113) (lv' := [(5, vI (i_3 + 1)), (4, vI 0), (3, vI z_49), (2, vI ((M 7 3) - (M 7 2))), (0, aR Γ 7), (1, sR Γ w)]) hx 2 (dq tX7_wordIn 58 rfl) rfl (by decide) rfl rfl ?_
                refine g_goto (n := 18) hx (dq tX7_wordIn 59 rfl) (by decide) ?_
                exact ih_7 _ (by omega) (i_3 + 1) 0 z_49 (by omega) (by omega) (by omega) (by omega) (by omega) (by omega) rfl
              · refine g_iload_n (n := 58) hx 2 (dq tX7_wordIn 30 rfl) rfl rfl ?_
                exact g_iret hx hr (dq tX7_wordIn 31 rfl) ⟨by omega, by omega⟩ rfl
  exact L_6 _ 0 0 0 (by omega) (by omega) (by omega) (by omega) (by omega) (by omega) rfl

abbrev qctX7_takesWord (M : zM) (w : Nat) (z : Int) (M' : zM) : Prop := (∀ u_ v_, (u_ ≠ 7 ∨ v_ ≠ 2) ∧ (u_ ≠ 7 ∨ v_ ≠ 3) ∧ (u_ ≠ 7 ∨ v_ ≠ 4) → M' u_ v_ = M u_ v_) ∧ (z = 0 ∨ (z = 1))
set_option maxHeartbeats 4000000 in
set_option maxRecDepth 100000 in
theorem ctX7_takesWord (Γ : Gam) (M : zM) (w : Nat) (qw : String × Nat × String × Nat) (hw : sN[w]? = some qw) (hwn : qw.2.2.2 ≤ 100)  : CtI Γ yX7_takesWord cX7_takesWord 2 (some .boolean) 5 110 [aR Γ 7, sR Γ w] M (qctX7_takesWord M w) := by
  refine met_i (by decide) (Nat.le_of_ble_eq_true rfl) (fun x hx hr => ?_)
  show G Γ x 2 (QI Γ x (qctX7_takesWord M w)) M 0 [(0, aR Γ 7), (1, sR Γ w)] []
  refine g_aload_n (n := 1) hx 0 (dq tX7_takesWord 0 rfl) rfl rfl ?_
  refine g_aload_nS (n := 2) hx 1 (dq tX7_takesWord 1 rfl) rfl rfl ?_
  refine g_callVi (n := 5) (As := [sR Γ w]) (rest := []) hx (ctX7_wordIn Γ M w _ hw hwn) mlX7_44 (obX7 (by decide)) (dq tX7_takesWord 2 rfl) rfl (Nat.le_of_ble_eq_true rfl) (Nat.le_of_ble_eq_true rfl) (Nat.le_of_ble_eq_true rfl) rfl (fun z_1 M_2 h_3 p_4 => ?_)
  obtain rfl := p_4
  refine g_if_eq (n := 8) (t := 10) hx (dq tX7_takesWord 3 rfl) (by decide) rfl h_3 (fun c_6 => ?_) (fun c_6 => ?_)
  · refine g_aload_n (n := 11) hx 0 (dq tX7_takesWord 6 rfl) rfl rfl ?_
    refine g_callVv (n := 14) (As := []) (rest := []) hx (ctX7_pass Γ M ) mlX7_25 (obX7 (by decide)) (dq tX7_takesWord 7 rfl) rfl (Nat.le_of_ble_eq_true rfl) (Nat.le_of_ble_eq_true rfl) (Nat.le_of_ble_eq_true rfl) rfl (fun M_8 p_10 => ?_)
    have f_11 := p_10
    refine g_iconst (n := 15) hx (dq tX7_takesWord 8 rfl) rfl ?_
    exact g_zret hx hr (dq tX7_takesWord 9 rfl) (by omega) ⟨(fun u_ v_ huv_ => (f_11 u_ v_ (by omega))), (by omega)⟩
  · refine g_iconst (n := 9) hx (dq tX7_takesWord 4 rfl) rfl ?_
    exact g_zret hx hr (dq tX7_takesWord 5 rfl) (by omega) ⟨(fun _ _ _ => rfl), (by omega)⟩
