set_option maxHeartbeats 4000000 in
set_option maxRecDepth 100000 in
theorem ctJ0_coder_7d493 (Γ : Gam) (M : zM) (i : Nat) (r : String × Nat × String × Nat) (hi : sN[i]? = some r) : CtI Γ yJ0_coder_7d493 cJ0_coder_7d493 1 (some .byte) 0 0 [sR Γ i] M (fun z M' => M = M' ∧ z = 0) := by
  refine met_i (by decide) (Nat.le_of_ble_eq_true rfl) (fun x hx hr => ?_)
  show G Γ x 1 (QI Γ x (fun z M' => M = M' ∧ z = 0)) M 0 [(0, sR Γ i)] []
  refine g_compact (n := 3) hx wd_504 (dq tJ0_coder_7d493 0 rfl) rfl ?_
  refine g_if_eq (n := 6) (t := 13) hx (dq tJ0_coder_7d493 1 rfl) (by decide) rfl ⟨by decide, by decide⟩ (fun h => absurd h (by decide)) (fun _ => ?_)
  refine g_aload_nS (n := 7) hx 0 (dq tJ0_coder_7d493 2 rfl) rfl rfl ?_
  refine g_coder (n := 10) hx hi wd_1975 (dq tJ0_coder_7d493 3 rfl) rfl ?_
  refine g_goto (n := 14) hx (dq tJ0_coder_7d493 4 rfl) (by decide) ?_
  exact g_bret hx hr (dq tJ0_coder_7d493 6 rfl) ⟨rfl, rfl⟩

set_option maxHeartbeats 4000000 in
set_option maxRecDepth 100000 in
theorem ctJ0_length_8abf5 (Γ : Gam) (M : zM) (i : Nat) (r : String × Nat × String × Nat) (hi : sN[i]? = some r) : CtI Γ yJ0_length_8abf5 cJ0_length_8abf5 1 (some .int) 1 20 [sR Γ i] M (fun z M' => M = M' ∧ z = r.2.2.2) := by
  refine met_i (by decide) (Nat.le_of_ble_eq_true rfl) (fun x hx hr => ?_)
  have hle := sNle i r hi
  show G Γ x 1 (QI Γ x (fun z M' => M = M' ∧ z = r.2.2.2)) M 0 [(0, sR Γ i)] []
  refine g_aload_nS (n := 1) hx 0 (dq tJ0_length_8abf5 0 rfl) rfl rfl ?_
  refine g_value (n := 4) hx hi wd_1974 (dq tJ0_length_8abf5 1 rfl) rfl ?_
  refine g_tlen (n := 5) hx hi (dq tJ0_length_8abf5 2 rfl) rfl ?_
  refine g_aload_nS (n := 6) hx 0 (dq tJ0_length_8abf5 3 rfl) rfl rfl ?_
  refine g_callSt (n := 9) (As := []) (rest := [vI r.2.2.2]) hx (ctJ0_coder_7d493 Γ M i r hi) mlJ0_335 rfl hi (dq tJ0_length_8abf5 4 rfl) rfl (Nat.le_of_ble_eq_true rfl) (Nat.le_of_ble_eq_true rfl) (Nat.le_of_ble_eq_true rfl) rfl (fun z M1 hz hp => ?_)
  obtain ⟨rfl, rfl⟩ := hp
  refine g_ishr0 (n := 10) hx (dq tJ0_length_8abf5 5 rfl) rfl ?_
  exact g_iret hx hr (dq tJ0_length_8abf5 6 rfl) ⟨by omega, by omega⟩ ⟨rfl, rfl⟩

set_option maxHeartbeats 4000000 in
set_option maxRecDepth 100000 in
theorem ctJ0_isLatin1_aae02 (Γ : Gam) (M : zM) (i : Nat) (r : String × Nat × String × Nat) (hi : sN[i]? = some r) : CtI Γ yJ0_isLatin1_aae02 cJ0_isLatin1_aae02 1 (some .boolean) 0 0 [sR Γ i] M (fun z M' => M = M' ∧ z = 1) := by
  refine met_i (by decide) (Nat.le_of_ble_eq_true rfl) (fun x hx hr => ?_)
  show G Γ x 1 (QI Γ x (fun z M' => M = M' ∧ z = 1)) M 0 [(0, sR Γ i)] []
  refine g_compact (n := 3) hx wd_504 (dq tJ0_isLatin1_aae02 0 rfl) rfl ?_
  refine g_if_eq (n := 6) (t := 17) hx (dq tJ0_isLatin1_aae02 1 rfl) (by decide) rfl ⟨by decide, by decide⟩ (fun h => absurd h (by decide)) (fun _ => ?_)
  refine g_aload_nS (n := 7) hx 0 (dq tJ0_isLatin1_aae02 2 rfl) rfl rfl ?_
  refine g_coder (n := 10) hx hi wd_1975 (dq tJ0_isLatin1_aae02 3 rfl) rfl ?_
  refine g_if_ne (n := 13) (t := 17) hx (dq tJ0_isLatin1_aae02 4 rfl) (by decide) rfl ⟨by decide, by decide⟩ (fun h => absurd rfl h) (fun _ => ?_)
  refine g_iconst (n := 14) hx (dq tJ0_isLatin1_aae02 5 rfl) rfl ?_
  refine g_goto (n := 18) hx (dq tJ0_isLatin1_aae02 6 rfl) (by decide) ?_
  exact g_zret hx hr (dq tJ0_isLatin1_aae02 8 rfl) (Or.inr rfl) ⟨rfl, rfl⟩

set_option maxHeartbeats 4000000 in
set_option maxRecDepth 100000 in
theorem ctJ3_checkIndex_8e157 (Γ : Gam) (M : zM) (k n : Int) (v : Value) (hv : v = .null ∨ ∃ t, v = .ref t) (h0 : 0 ≤ k) (h1 : k < n) (h2 : n ≤ 2147483647) : CtI Γ yJ3_checkIndex_8e157 cJ3_checkIndex_8e157 3 (some .int) 0 0 [vI k, vI n, v] M (fun z M' => M = M') := by
  refine met_i (by decide) ((by rcases hv with rfl | ⟨t, rfl⟩ <;> decide)) (fun x hx hr => ?_)
  show G Γ x 3 (QI Γ x (fun z M' => M = M')) M 0 (lv_args 0 [vI k, vI n, v]) []
  refine g_iload_n (n := 1) hx 0 (dq tJ3_checkIndex_8e157 0 rfl) rfl rfl ?_
  refine g_if_lt (n := 4) (t := 9) hx (dq tJ3_checkIndex_8e157 1 rfl) (by decide) rfl ⟨by omega, by omega⟩ (fun h => absurd h (by omega)) (fun _ => ?_)
  refine g_iload_n (n := 5) hx 0 (dq tJ3_checkIndex_8e157 2 rfl) rfl rfl ?_
  refine g_iload_n (n := 6) hx 1 (dq tJ3_checkIndex_8e157 3 rfl) rfl rfl ?_
  refine g_icmp_lt (n := 9) (t := 16) hx (dq tJ3_checkIndex_8e157 4 rfl) (by decide) rfl ⟨by omega, by omega⟩ ⟨by omega, by omega⟩ (fun _ => ?_) (fun h => absurd h1 h)
  refine g_iload_n (n := 17) hx 0 (dq tJ3_checkIndex_8e157 10 rfl) rfl rfl ?_
  exact g_iret hx hr (dq tJ3_checkIndex_8e157 11 rfl) ⟨by omega, by omega⟩ rfl

set_option maxHeartbeats 4000000 in
set_option maxRecDepth 100000 in
theorem ctJ0_checkIndex_df160 (Γ : Gam) (M : zM) (k n : Int) (h0 : 0 ≤ k) (h1 : k < n) (h2 : n ≤ 2147483647) : CtV Γ yJ0_checkIndex_df160 cJ0_checkIndex_df160 2 none 1 22 [vI k, vI n] M (fun M' => M = M') := by
  refine met_v (by decide) (Nat.le_of_ble_eq_true rfl) (fun x hx hr => ?_)
  show G Γ x 2 (QV Γ x (fun M' => M = M')) M 0 [(0, vI k), (1, vI n)] []
  refine g_iload_n (n := 1) hx 0 (dq tJ0_checkIndex_df160 0 rfl) rfl rfl ?_
  refine g_iload_n (n := 2) hx 1 (dq tJ0_checkIndex_df160 1 rfl) rfl rfl ?_
  refine g_former (n := 5) hx wd_520 (dq tJ0_checkIndex_df160 2 rfl) rfl ?_ (fun t => ?_)
  · refine g_callSi (n := 8) (As := [vI k, vI n, .null]) (rest := []) hx (ctJ3_checkIndex_8e157 Γ M k n .null (Or.inl rfl) h0 h1 h2) mlJ0_1059 (dq tJ0_checkIndex_df160 3 rfl) rfl (Nat.le_of_ble_eq_true rfl) (Nat.le_of_ble_eq_true rfl) (Nat.le_of_ble_eq_true rfl) rfl (fun z M1 hz hp => ?_)
    obtain rfl := hp
    refine g_pop (n := 9) hx (dq tJ0_checkIndex_df160 4 rfl) rfl rfl ?_
    exact g_vret hx hr (dq tJ0_checkIndex_df160 5 rfl) rfl
  · refine g_callSi (n := 8) (As := [vI k, vI n, .ref t]) (rest := []) hx (ctJ3_checkIndex_8e157 Γ M k n (.ref t) (Or.inr ⟨t, rfl⟩) h0 h1 h2) mlJ0_1059 (dq tJ0_checkIndex_df160 3 rfl) rfl (Nat.le_of_ble_eq_true rfl) (Nat.le_of_ble_eq_true rfl) (Nat.le_of_ble_eq_true rfl) rfl (fun z M1 hz hp => ?_)
    obtain rfl := hp
    refine g_pop (n := 9) hx (dq tJ0_checkIndex_df160 4 rfl) rfl rfl ?_
    exact g_vret hx hr (dq tJ0_checkIndex_df160 5 rfl) rfl

set_option maxHeartbeats 4000000 in
set_option maxRecDepth 100000 in
theorem ctJ1_charAt_3b067 (Γ : Gam) (M : zM) (i : Nat) (r : String × Nat × String × Nat) (hi : sN[i]? = some r) (k : Int) (h0 : 0 ≤ k) (h1 : k < r.2.2.2) : CtI Γ yJ1_charAt_3b067 cJ1_charAt_3b067 2 (some .char) 2 43 [.ref (gs Γ (2 * i + 1)), vI k] M (fun z M' => M = M' ∧ 0 ≤ z ∧ z ≤ 255) := by
  refine met_i (by decide) (Nat.le_of_ble_eq_true rfl) (fun x hx hr => ?_)
  have hle := sNle i r hi
  show G Γ x 2 (QI Γ x (fun z M' => M = M' ∧ 0 ≤ z ∧ z ≤ 255)) M 0 [(0, .ref (gs Γ (2 * i + 1))), (1, vI k)] []
  refine g_iload_n (n := 1) hx 1 (dq tJ1_charAt_3b067 0 rfl) rfl rfl ?_
  refine g_aload_nR (n := 2) hx 0 (dq tJ1_charAt_3b067 1 rfl) rfl rfl ?_
  refine g_tlen (n := 3) hx hi (dq tJ1_charAt_3b067 2 rfl) rfl ?_
  refine g_callSv (n := 6) (As := [vI k, vI r.2.2.2]) (rest := []) hx (ctJ0_checkIndex_df160 Γ M k r.2.2.2 h0 h1 (by omega)) mlJ1_9 (dq tJ1_charAt_3b067 3 rfl) rfl (Nat.le_of_ble_eq_true rfl) (Nat.le_of_ble_eq_true rfl) (Nat.le_of_ble_eq_true rfl) rfl (fun M1 hp => ?_)
  obtain rfl := hp
  refine g_aload_nR (n := 7) hx 0 (dq tJ1_charAt_3b067 4 rfl) rfl rfl ?_
  refine g_iload_n (n := 8) hx 1 (dq tJ1_charAt_3b067 5 rfl) rfl rfl ?_
  refine g_tald (n := 9) hx hi (dq tJ1_charAt_3b067 6 rfl) rfl h0 h1 (by omega) (fun z hz => ?_)
  refine g_sipush (n := 12) hx (dq tJ1_charAt_3b067 7 rfl) rfl (by decide) ?_
  refine g_iand (n := 13) hx (dq tJ1_charAt_3b067 8 rfl) rfl (fun z2 hz2 q1 q2 => ?_)
  have q3 := q1 (by decide) (by decide)
  refine g_i2cI (n := 14) hx (dq tJ1_charAt_3b067 9 rfl) rfl (by omega) (by omega) ?_
  exact g_cret hx hr (dq tJ1_charAt_3b067 10 rfl) (by omega) (by omega) ⟨rfl, by omega, by omega⟩

set_option maxHeartbeats 4000000 in
set_option maxRecDepth 100000 in
theorem ctJ0_charAt_5068e (Γ : Gam) (M : zM) (i : Nat) (r : String × Nat × String × Nat) (hi : sN[i]? = some r) (k : Int) (h0 : 0 ≤ k) (h1 : k < r.2.2.2) : CtI Γ yJ0_charAt_5068e cJ0_charAt_5068e 2 (some .char) 3 64 [sR Γ i, vI k] M (fun z M' => M = M' ∧ 0 ≤ z ∧ z ≤ 255) := by
  refine met_i (by decide) (Nat.le_of_ble_eq_true rfl) (fun x hx hr => ?_)
  have hle := sNle i r hi
  show G Γ x 2 (QI Γ x (fun z M' => M = M' ∧ 0 ≤ z ∧ z ≤ 255)) M 0 [(0, sR Γ i), (1, vI k)] []
  refine g_aload_nS (n := 1) hx 0 (dq tJ0_charAt_5068e 0 rfl) rfl rfl ?_
  refine g_callSt (n := 4) (As := []) (rest := []) hx (ctJ0_isLatin1_aae02 Γ M i r hi) mlJ0_492 rfl hi (dq tJ0_charAt_5068e 1 rfl) rfl (Nat.le_of_ble_eq_true rfl) (Nat.le_of_ble_eq_true rfl) (Nat.le_of_ble_eq_true rfl) rfl (fun z M1 hz hp => ?_)
  obtain ⟨rfl, rfl⟩ := hp
  refine g_if_eq (n := 7) (t := 16) hx (dq tJ0_charAt_5068e 2 rfl) (by decide) rfl ⟨by decide, by decide⟩ (fun h => absurd h (by decide)) (fun _ => ?_)
  refine g_aload_nS (n := 8) hx 0 (dq tJ0_charAt_5068e 3 rfl) rfl rfl ?_
  refine g_value (n := 11) hx hi wd_1974 (dq tJ0_charAt_5068e 4 rfl) rfl ?_
  refine g_iload_n (n := 12) hx 1 (dq tJ0_charAt_5068e 5 rfl) rfl rfl ?_
  refine g_callSi (n := 15) (As := [.ref (gs Γ (2 * i + 1)), vI k]) (rest := []) hx (ctJ1_charAt_3b067 Γ M i r hi k h0 h1) mlJ0_495 (dq tJ0_charAt_5068e 6 rfl) rfl (Nat.le_of_ble_eq_true rfl) (Nat.le_of_ble_eq_true rfl) (Nat.le_of_ble_eq_true rfl) rfl (fun z M1 hz hp => ?_)
  obtain ⟨rfl, q1, q2⟩ := hp
  exact g_cret hx hr (dq tJ0_charAt_5068e 7 rfl) (by omega) (by omega) ⟨rfl, q1, q2⟩

abbrev qctX7_append (M : zM) (number : Int) (M' : zM) : Prop := (∀ u_ v_, (u_ ≠ 7 ∨ v_ ≠ 1) ∧ u_ ≠ 7 + 1 → M' u_ v_ = M u_ v_)
set_option maxHeartbeats 4000000 in
set_option maxRecDepth 100000 in
theorem ctX7_append (Γ : Gam) (M : zM) (number : Int) (hnumberl : (-2147483648) ≤ number) (hnumberu : number ≤ 2147483647)  : CtV Γ yX7_append cX7_append 3 none 0 0 [aR Γ 7, vI number] M (qctX7_append M number) := by
  refine met_v (by decide) (Nat.le_of_ble_eq_true rfl) (fun x hx hr => ?_)
  show G Γ x 3 (QV Γ x (qctX7_append M number)) M 0 [(0, aR Γ 7), (1, vI number)] []
  refine g_bipush (n := 2) hx (dq tX7_append 0 rfl) rfl (by decide) ?_
  refine g_istore_n (n := 3) (lv' := [(2, vI 24), (0, aR Γ 7), (1, vI number)]) hx (dq tX7_append 1 rfl) (by decide) rfl rfl ?_
  have L_3 : ∀ (n_ : Nat) (i_1 : Int) (M_2 : zM), ((-8) ≤ i_1) → (i_1 ≤ 24) → (∀ u_ v_, (u_ ≠ 7 ∨ v_ ≠ 1) ∧ u_ ≠ 7 + 1 → M_2 u_ v_ = M u_ v_) → ((i_1 - (-8)).toNat = n_) → G Γ x 3 (QV Γ x (qctX7_append M number)) M_2 3 [(2, vI i_1), (0, aR Γ 7), (1, vI number)] [] := by
    intro n_
    induction n_ using Nat.strongRecOn with
    | _ n_ ih_4 =>
      intro i_1 M_2 h_7 h_8 f_5 hm_6
      refine g_iload_n (n := 4) hx 0 (dq tX7_append 2 rfl) rfl rfl ?_
      refine g_if_lt (n := 7) (t := 49) hx (dq tX7_append 3 rfl) (by decide) rfl ⟨by omega, by omega⟩ (fun c_9 => ?_) (fun c_9 => ?_)
      · exact g_vret hx hr (dq tX7_append 26 rfl) (fun u_ v_ huv_ => (f_5 u_ v_ (by omega)))
      · refine g_aload_n (n := 8) hx 1 (dq tX7_append 4 rfl) rfl rfl ?_
        refine g_getI (n := 11) hx glX7_15 (sX7_1 (by decide)) (dq tX7_append 5 rfl) rfl (fun h_10l h_10u => ?_)
        refine g_sipush (n := 14) hx (dq tX7_append 6 rfl) rfl (by decide) ?_
        refine g_icmp_ge (n := 17) (t := 49) hx (dq tX7_append 7 rfl) (by decide) rfl (zrI h_10l h_10u (by decide) (by decide)) ⟨by decide, by decide⟩ (fun c_11 => ?_) (fun c_11 => ?_)
        · exact g_vret hx hr (dq tX7_append 26 rfl) (fun u_ v_ huv_ => (f_5 u_ v_ (by omega)))
        · refine g_aload_n (n := 18) hx 1 (dq tX7_append 8 rfl) rfl rfl ?_
          refine g_getR (n := 21) hx glX7_9 (sX7_0 (by decide)) (dq tX7_append 9 rfl) rfl ?_
          refine g_aload_n (n := 22) hx 1 (dq tX7_append 10 rfl) rfl rfl ?_
          refine g_getI (n := 25) hx glX7_15 (sX7_1 (by decide)) (dq tX7_append 11 rfl) rfl (fun h_12l h_12u => ?_)
          refine g_iload_n (n := 26) hx 2 (dq tX7_append 12 rfl) rfl rfl ?_
          refine g_iload_n (n := 27) hx 0 (dq tX7_append 13 rfl) rfl rfl ?_
          refine g_iushr (n := 28) hx (dq tX7_append 14 rfl) rfl (fun z_13 h_14 => ?_)
          refine g_sipush (n := 31) hx (dq tX7_append 15 rfl) rfl (by decide) ?_
          refine g_iand (n := 32) hx (dq tX7_append 16 rfl) rfl (fun z_16 h_17 h_181 h_182 => ?_)
          obtain ⟨h_183, h_184⟩ := h_181 (by omega) (by omega)
          clear h_181 h_182
          refine g_iast (n := 33) (q := (M_2 7 1).toNat) hx (aX7_0 (b := 7) (by decide)) (dq tX7_append 17 rfl) rfl (by omega) (by omega) (by omega) rfl (by omega) (by omega) (fun M_19 m_20e m_20 => ?_)
          refine g_aload_n (n := 34) hx 1 (dq tX7_append 18 rfl) rfl rfl ?_
          refine g_dup (n := 35) hx (dq tX7_append 19 rfl) rfl rfl ?_
          refine g_getI (n := 38) hx glX7_15 (sX7_1 (by decide)) (dq tX7_append 20 rfl) rfl (fun h_21l h_21u => ?_)
          have e_22 : M_19 7 1 = M_2 7 1 := (m_20 7 1 (by omega))
          refine g_iconst (n := 39) hx (dq tX7_append 21 rfl) rfl ?_
          refine g_iadd (n := 40) hx (dq tX7_append 22 rfl) rfl ?_
          refine g_putI (n := 43) hx plX7_15 (sX7_1 (by decide)) (dq tX7_append 23 rfl) rfl (by omega) (by omega) (fun M_23 m_24e m_24 => ?_)
          refine g_iinc (n := 46) (lv' := [(2, vI (i_1 + (-8))), (0, aR Γ 7), (1, vI number)]) hx 0 (dq tX7_append 24 rfl) rfl (by decide) rfl rfl ?_
          refine g_goto (n := 3) hx (dq tX7_append 25 rfl) (by decide) ?_
          exact ih_4 _ (by omega) (i_1 + (-8)) M_23 (by omega) (by omega) (fun u_ v_ huv_ => (((m_24 u_ v_ (by omega)).trans (m_20 u_ v_ (by omega))).trans (f_5 u_ v_ (by omega)))) rfl
  exact L_3 _ 24 M (by omega) (by omega) (fun _ _ _ => rfl) rfl

abbrev qctX7_pass (M : zM)  (M' : zM) : Prop := (∀ u_ v_, (u_ ≠ 7 ∨ v_ ≠ 2) ∧ (u_ ≠ 7 ∨ v_ ≠ 3) ∧ (u_ ≠ 7 ∨ v_ ≠ 4) → M' u_ v_ = M u_ v_)
set_option maxHeartbeats 4000000 in
set_option maxRecDepth 100000 in
theorem ctX7_pass (Γ : Gam) (M : zM)   : CtV Γ yX7_pass cX7_pass 4 none 0 0 [aR Γ 7] M (qctX7_pass M) := by
  refine met_v (by decide) (Nat.le_of_ble_eq_true rfl) (fun x hx hr => ?_)
  show G Γ x 4 (QV Γ x (qctX7_pass M)) M 0 [(0, aR Γ 7)] []
  refine g_aload_n (n := 1) hx 0 (dq tX7_pass 0 rfl) rfl rfl ?_
  refine g_aload_n (n := 2) hx 0 (dq tX7_pass 1 rfl) rfl rfl ?_
  refine g_getI (n := 5) hx glX7_22 (sX7_3 (by decide)) (dq tX7_pass 2 rfl) rfl (fun h_1l h_1u => ?_)
  refine g_putI (n := 8) hx plX7_28 (sX7_2 (by decide)) (dq tX7_pass 3 rfl) rfl (by omega) (by omega) (fun M_2 m_3e m_3 => ?_)
  have L_5 : ∀ (n_ : Nat) (M_4 : zM), (∀ u_ v_, (u_ ≠ 7 ∨ v_ ≠ 2) → M_4 u_ v_ = M_2 u_ v_) → ((400 - M_4 7 2).toNat = n_) → G Γ x 4 (QV Γ x (qctX7_pass M)) M_4 8 [(0, aR Γ 7)] [] := by
    intro n_
    induction n_ using Nat.strongRecOn with
    | _ n_ ih_6 =>
      intro M_4 f_7 hm_8
      refine g_aload_n (n := 9) hx 0 (dq tX7_pass 4 rfl) rfl rfl ?_
      refine g_getI (n := 12) hx glX7_28 (sX7_2 (by decide)) (dq tX7_pass 5 rfl) rfl (fun h_9l h_9u => ?_)
      refine g_aload_n (n := 13) hx 0 (dq tX7_pass 6 rfl) rfl rfl ?_
      refine g_getI (n := 16) hx glX7_15 (sX7_1 (by decide)) (dq tX7_pass 7 rfl) rfl (fun h_10l h_10u => ?_)
      refine g_icmp_ge (n := 19) (t := 46) hx (dq tX7_pass 8 rfl) (by decide) rfl (zrI h_9l h_9u (by decide) (by decide)) (zrI h_10l h_10u (by decide) (by decide)) (fun c_11 => ?_) (fun c_11 => ?_)
      · refine g_aload_n (n := 47) hx 0 (dq tX7_pass 23 rfl) rfl rfl ?_
        refine g_aload_n (n := 48) hx 0 (dq tX7_pass 24 rfl) rfl rfl ?_
        refine g_getI (n := 51) hx glX7_28 (sX7_2 (by decide)) (dq tX7_pass 25 rfl) rfl (fun h_12l h_12u => ?_)
        refine g_aload_n (n := 52) hx 0 (dq tX7_pass 26 rfl) rfl rfl ?_
        refine g_getI (n := 55) hx glX7_15 (sX7_1 (by decide)) (dq tX7_pass 27 rfl) rfl (fun h_13l h_13u => ?_)
        refine g_icmp_ge (n := 58) (t := 70) hx (dq tX7_pass 28 rfl) (by decide) rfl (zrI h_12l h_12u (by decide) (by decide)) (zrI h_13l h_13u (by decide) (by decide)) (fun c_14 => ?_) (fun c_14 => ?_)
        · refine g_iconst (n := 71) hx (dq tX7_pass 35 rfl) rfl ?_
          refine g_putI (n := 74) hx plX7_31 (sX7_4 (by decide)) (dq tX7_pass 36 rfl) rfl (by omega) (by omega) (fun M_15 m_16e m_16 => ?_)
          refine g_aload_n (n := 75) hx 0 (dq tX7_pass 37 rfl) rfl rfl ?_
          refine g_aload_n (n := 76) hx 0 (dq tX7_pass 38 rfl) rfl rfl ?_
          refine g_getI (n := 79) hx glX7_28 (sX7_2 (by decide)) (dq tX7_pass 39 rfl) rfl (fun h_17l h_17u => ?_)
          have e_18 : M_15 7 2 = M_4 7 2 := (m_16 7 2 (by omega))
          refine g_aload_n (n := 80) hx 0 (dq tX7_pass 40 rfl) rfl rfl ?_
          refine g_getI (n := 83) hx glX7_15 (sX7_1 (by decide)) (dq tX7_pass 41 rfl) rfl (fun h_19l h_19u => ?_)
          have e_20 : M_15 7 1 = M_4 7 1 := (m_16 7 1 (by omega))
          refine g_icmp_ge (n := 86) (t := 95) hx (dq tX7_pass 42 rfl) (by decide) rfl (zrI h_17l h_17u (by decide) (by decide)) (zrI h_19l h_19u (by decide) (by decide)) (fun c_21 => ?_) (fun c_21 => ?_)
          · refine g_aload_n (n := 96) hx 0 (dq tX7_pass 48 rfl) rfl rfl ?_
            refine g_getI (n := 99) hx glX7_15 (sX7_1 (by decide)) (dq tX7_pass 49 rfl) rfl (fun h_22l h_22u => ?_)
            refine g_putI (n := 102) hx plX7_22 (sX7_3 (by decide)) (dq tX7_pass 50 rfl) rfl (by omega) (by omega) (fun M_23 m_24e m_24 => ?_)
            refine g_sipush (n := 105) hx (dq tX7_pass 51 rfl) rfl (by decide) ?_
            refine g_istore_n (n := 106) (lv' := [(1, vI 256), (0, aR Γ 7)]) hx (dq tX7_pass 52 rfl) (by decide) rfl rfl ?_
            refine g_sipush (n := 109) hx (dq tX7_pass 53 rfl) rfl (by decide) ?_
            refine g_istore_n (n := 110) (lv' := [(2, vI 256), (1, vI 256), (0, aR Γ 7)]) hx (dq tX7_pass 54 rfl) (by decide) rfl rfl ?_
            refine g_aload_n (n := 111) hx 2 (dq tX7_pass 55 rfl) rfl rfl ?_
            refine g_getI (n := 114) hx glX7_15 (sX7_1 (by decide)) (dq tX7_pass 56 rfl) rfl (fun h_25l h_25u => ?_)
            have e_26 : M_23 7 1 = M_15 7 1 := (m_24 7 1 (by omega))
            refine g_istore_n (n := 115) (lv' := [(3, vI (M_23 7 1)), (2, vI 256), (1, vI 256), (0, aR Γ 7)]) hx (dq tX7_pass 57 rfl) (by decide) rfl rfl ?_
            refine g_aload_n (n := 116) hx 3 (dq tX7_pass 58 rfl) rfl rfl ?_
            refine g_getI (n := 119) hx glX7_31 (sX7_4 (by decide)) (dq tX7_pass 59 rfl) rfl (fun h_27l h_27u => ?_)
            have e_28 : M_23 7 4 = M_15 7 4 := (m_24 7 4 (by omega))
            refine g_bipush (n := 121) hx (dq tX7_pass 60 rfl) rfl (by decide) ?_
            refine g_icmp_eq (n := 124) (t := 133) hx (dq tX7_pass 61 rfl) (by decide) rfl (zrI h_27l h_27u (by decide) (by decide)) ⟨by decide, by decide⟩ (fun c_29 => ?_) (fun c_29 => ?_)
            · refine g_bipush (n := 135) hx (dq tX7_pass 66 rfl) rfl (by decide) ?_
              refine g_istore_n (n := 136) (lv' := [(1, vI 61), (3, vI (M_23 7 1)), (2, vI 256), (0, aR Γ 7)]) hx (dq tX7_pass 67 rfl) (by decide) rfl rfl ?_
              refine g_bipush (n := 138) hx (dq tX7_pass 68 rfl) rfl (by decide) ?_
              refine g_istore_n (n := 139) (lv' := [(2, vI 61), (1, vI 61), (3, vI (M_23 7 1)), (0, aR Γ 7)]) hx (dq tX7_pass 69 rfl) (by decide) rfl rfl ?_
              refine g_aload_n (n := 140) hx 3 (dq tX7_pass 70 rfl) rfl rfl ?_
              refine g_getI (n := 143) hx glX7_28 (sX7_2 (by decide)) (dq tX7_pass 71 rfl) rfl (fun h_30l h_30u => ?_)
              have e_31 : M_23 7 2 = M_15 7 2 := (m_24 7 2 (by omega))
              refine g_iconst (n := 144) hx (dq tX7_pass 72 rfl) rfl ?_
              refine g_iadd (n := 145) hx (dq tX7_pass 73 rfl) rfl ?_
              refine g_istore_n (n := 146) (lv' := [(3, vI ((M_23 7 2) + 2)), (2, vI 61), (1, vI 61), (0, aR Γ 7)]) hx (dq tX7_pass 74 rfl) (by decide) rfl rfl ?_
              refine g_goto (n := 200) hx (dq tX7_pass 75 rfl) (by decide) ?_
              have L_33 : ∀ (n_ : Nat) (M_32 : zM), (∀ u_ v_, (u_ ≠ 7 ∨ v_ ≠ 3) → M_32 u_ v_ = M_23 u_ v_) → ((400 - M_32 7 3).toNat = n_) → G Γ x 4 (QV Γ x (qctX7_pass M)) M_32 200 [(3, vI ((M_23 7 2) + 2)), (2, vI 61), (1, vI 61), (0, aR Γ 7)] [] := by
                intro n_
                induction n_ using Nat.strongRecOn with
                | _ n_ ih_34 =>
                  intro M_32 f_35 hm_36
                  refine g_aload_n (n := 201) hx 3 (dq tX7_pass 101 rfl) rfl rfl ?_
                  refine g_getI (n := 204) hx glX7_22 (sX7_3 (by decide)) (dq tX7_pass 102 rfl) rfl (fun h_37l h_37u => ?_)
                  refine g_aload_n (n := 205) hx 3 (dq tX7_pass 103 rfl) rfl rfl ?_
                  refine g_getI (n := 208) hx glX7_15 (sX7_1 (by decide)) (dq tX7_pass 104 rfl) rfl (fun h_38l h_38u => ?_)
                  have e_39 : M_32 7 1 = M_23 7 1 := (f_35 7 1 (by omega))
                  refine g_icmp_ge (n := 211) (t := 258) hx (dq tX7_pass 105 rfl) (by decide) rfl (zrI h_37l h_37u (by decide) (by decide)) (zrI h_38l h_38u (by decide) (by decide)) (fun c_40 => ?_) (fun c_40 => ?_)
                  · exact g_vret hx hr (dq tX7_pass 131 rfl) (fun u_ v_ huv_ => (((((f_35 u_ v_ (by omega)).trans (m_24 u_ v_ (by omega))).trans (m_16 u_ v_ (by omega))).trans (f_7 u_ v_ (by omega))).trans (m_3 u_ v_ (by omega))))
                  · refine g_aload_n (n := 212) hx 3 (dq tX7_pass 106 rfl) rfl rfl ?_
                    refine g_getI (n := 215) hx glX7_22 (sX7_3 (by decide)) (dq tX7_pass 107 rfl) rfl (fun h_41l h_41u => ?_)
                    refine g_iload_n (n := 216) hx 0 (dq tX7_pass 108 rfl) rfl rfl ?_
                    refine g_icmp_ge (n := 219) (t := 258) hx (dq tX7_pass 109 rfl) (by decide) rfl (zrI h_41l h_41u (by decide) (by decide)) ⟨by omega, by omega⟩ (fun c_42 => ?_) (fun c_42 => ?_)
                    · exact g_vret hx hr (dq tX7_pass 131 rfl) (fun u_ v_ huv_ => (((((f_35 u_ v_ (by omega)).trans (m_24 u_ v_ (by omega))).trans (m_16 u_ v_ (by omega))).trans (f_7 u_ v_ (by omega))).trans (m_3 u_ v_ (by omega))))
                    · refine g_aload_n (n := 220) hx 3 (dq tX7_pass 110 rfl) rfl rfl ?_
                      refine g_getR (n := 223) hx glX7_9 (sX7_0 (by decide)) (dq tX7_pass 111 rfl) rfl ?_
                      refine g_aload_n (n := 224) hx 3 (dq tX7_pass 112 rfl) rfl rfl ?_
                      refine g_getI (n := 227) hx glX7_22 (sX7_3 (by decide)) (dq tX7_pass 113 rfl) rfl (fun h_43l h_43u => ?_)
                      refine g_iald (n := 228) (q := (M_32 7 3).toNat) hx (aX7_0 (b := 7) (by decide)) (dq tX7_pass 114 rfl) rfl (by omega) (by omega) (by omega) rfl (fun h_44l h_44u => ?_)
                      refine g_iload_n (n := 229) hx 2 (dq tX7_pass 115 rfl) rfl rfl ?_
                      refine g_icmp_lt (n := 232) (t := 258) hx (dq tX7_pass 116 rfl) (by decide) rfl (zrI h_44l h_44u (by decide) (by decide)) ⟨by decide, by decide⟩ (fun c_45 => ?_) (fun c_45 => ?_)
                      · exact g_vret hx hr (dq tX7_pass 131 rfl) (fun u_ v_ huv_ => (((((f_35 u_ v_ (by omega)).trans (m_24 u_ v_ (by omega))).trans (m_16 u_ v_ (by omega))).trans (f_7 u_ v_ (by omega))).trans (m_3 u_ v_ (by omega))))
                      · refine g_aload_n (n := 233) hx 3 (dq tX7_pass 117 rfl) rfl rfl ?_
                        refine g_getR (n := 236) hx glX7_9 (sX7_0 (by decide)) (dq tX7_pass 118 rfl) rfl ?_
                        refine g_aload_n (n := 237) hx 3 (dq tX7_pass 119 rfl) rfl rfl ?_
                        refine g_getI (n := 240) hx glX7_22 (sX7_3 (by decide)) (dq tX7_pass 120 rfl) rfl (fun h_46l h_46u => ?_)
                        refine g_iald (n := 241) (q := (M_32 7 3).toNat) hx (aX7_0 (b := 7) (by decide)) (dq tX7_pass 121 rfl) rfl (by omega) (by omega) (by omega) rfl (fun h_47l h_47u => ?_)
                        refine g_iload_n (n := 242) hx 1 (dq tX7_pass 122 rfl) rfl rfl ?_
                        refine g_icmp_gt (n := 245) (t := 258) hx (dq tX7_pass 123 rfl) (by decide) rfl (zrI h_47l h_47u (by decide) (by decide)) ⟨by decide, by decide⟩ (fun c_48 => ?_) (fun c_48 => ?_)
                        · exact g_vret hx hr (dq tX7_pass 131 rfl) (fun u_ v_ huv_ => (((((f_35 u_ v_ (by omega)).trans (m_24 u_ v_ (by omega))).trans (m_16 u_ v_ (by omega))).trans (f_7 u_ v_ (by omega))).trans (m_3 u_ v_ (by omega))))
                        · refine g_aload_n (n := 246) hx 3 (dq tX7_pass 124 rfl) rfl rfl ?_
                          refine g_dup (n := 247) hx (dq tX7_pass 125 rfl) rfl rfl ?_
                          refine g_getI (n := 250) hx glX7_22 (sX7_3 (by decide)) (dq tX7_pass 126 rfl) rfl (fun h_49l h_49u => ?_)
                          refine g_iconst (n := 251) hx (dq tX7_pass 127 rfl) rfl ?_
                          refine g_iadd (n := 252) hx (dq tX7_pass 128 rfl) rfl ?_
                          refine g_putI (n := 255) hx plX7_22 (sX7_3 (by decide)) (dq tX7_pass 129 rfl) rfl (by omega) (by omega) (fun M_50 m_51e m_51 => ?_)
                          refine g_goto (n := 200) hx (dq tX7_pass 130 rfl) (by decide) ?_
                          exact ih_34 _ (by omega) M_50 (fun u_ v_ huv_ => ((m_51 u_ v_ (by omega)).trans (f_35 u_ v_ (by omega)))) rfl
              exact L_33 _ M_23 (fun _ _ _ => rfl) rfl
            · refine g_aload_n (n := 125) hx 3 (dq tX7_pass 62 rfl) rfl rfl ?_
              refine g_getI (n := 128) hx glX7_31 (sX7_4 (by decide)) (dq tX7_pass 63 rfl) rfl (fun h_52l h_52u => ?_)
              refine g_bipush (n := 130) hx (dq tX7_pass 64 rfl) rfl (by decide) ?_
              refine g_icmp_ne (n := 133) (t := 149) hx (dq tX7_pass 65 rfl) (by decide) rfl (zrI h_52l h_52u (by decide) (by decide)) ⟨by decide, by decide⟩ (fun c_53 => ?_) (fun c_53 => ?_)
              · refine g_aload_n (n := 150) hx 3 (dq tX7_pass 76 rfl) rfl rfl ?_
                refine g_getI (n := 153) hx glX7_31 (sX7_4 (by decide)) (dq tX7_pass 77 rfl) rfl (fun h_54l h_54u => ?_)
                refine g_bipush (n := 155) hx (dq tX7_pass 78 rfl) rfl (by decide) ?_
                refine g_icmp_lt (n := 158) (t := 176) hx (dq tX7_pass 79 rfl) (by decide) rfl (zrI h_54l h_54u (by decide) (by decide)) ⟨by decide, by decide⟩ (fun c_55 => ?_) (fun c_55 => ?_)
                · refine g_aload_n (n := 177) hx 3 (dq tX7_pass 89 rfl) rfl rfl ?_
                  refine g_getI (n := 180) hx glX7_31 (sX7_4 (by decide)) (dq tX7_pass 90 rfl) rfl (fun h_56l h_56u => ?_)
                  refine g_bipush (n := 182) hx (dq tX7_pass 91 rfl) rfl (by decide) ?_
                  refine g_icmp_lt (n := 185) (t := 200) hx (dq tX7_pass 92 rfl) (by decide) rfl (zrI h_56l h_56u (by decide) (by decide)) ⟨by decide, by decide⟩ (fun c_57 => ?_) (fun c_57 => ?_)
                  · have L_58 : ∀ (n_ : Nat), ((400 - M_23 7 3).toNat = n_) → G Γ x 4 (QV Γ x (qctX7_pass M)) M_23 200 [(3, vI (M_23 7 1)), (2, vI 256), (1, vI 256), (0, aR Γ 7)] [] := by
                      intro n_
                      induction n_ using Nat.strongRecOn with
                      | _ n_ ih_59 =>
                        intro hm_61
                        refine g_aload_n (n := 201) hx 3 (dq tX7_pass 101 rfl) rfl rfl ?_
                        refine g_getI (n := 204) hx glX7_22 (sX7_3 (by decide)) (dq tX7_pass 102 rfl) rfl (fun h_62l h_62u => ?_)
                        refine g_aload_n (n := 205) hx 3 (dq tX7_pass 103 rfl) rfl rfl ?_
                        refine g_getI (n := 208) hx glX7_15 (sX7_1 (by decide)) (dq tX7_pass 104 rfl) rfl (fun h_63l h_63u => ?_)
                        refine g_icmp_ge (n := 211) (t := 258) hx (dq tX7_pass 105 rfl) (by decide) rfl (zrI h_62l h_62u (by decide) (by decide)) (zrI h_63l h_63u (by decide) (by decide)) (fun c_64 => ?_) (fun c_64 => ?_)
                        · exact g_vret hx hr (dq tX7_pass 131 rfl) (fun u_ v_ huv_ => ((((m_24 u_ v_ (by omega)).trans (m_16 u_ v_ (by omega))).trans (f_7 u_ v_ (by omega))).trans (m_3 u_ v_ (by omega))))
                        · refine g_aload_n (n := 212) hx 3 (dq tX7_pass 106 rfl) rfl rfl ?_
                          refine g_getI (n := 215) hx glX7_22 (sX7_3 (by decide)) (dq tX7_pass 107 rfl) rfl (fun h_65l h_65u => ?_)
                          refine g_iload_n (n := 216) hx 0 (dq tX7_pass 108 rfl) rfl rfl ?_
                          refine g_icmp_ge (n := 219) (t := 258) hx (dq tX7_pass 109 rfl) (by decide) rfl (zrI h_65l h_65u (by decide) (by decide)) (zrI h_25l h_25u (by decide) (by decide)) (fun c_66 => ?_) (fun c_66 => ?_)
                          · exact g_vret hx hr (dq tX7_pass 131 rfl) (fun u_ v_ huv_ => ((((m_24 u_ v_ (by omega)).trans (m_16 u_ v_ (by omega))).trans (f_7 u_ v_ (by omega))).trans (m_3 u_ v_ (by omega))))
                          · refine g_aload_n (n := 220) hx 3 (dq tX7_pass 110 rfl) rfl rfl ?_
                            refine g_getR (n := 223) hx glX7_9 (sX7_0 (by decide)) (dq tX7_pass 111 rfl) rfl ?_
                            refine g_aload_n (n := 224) hx 3 (dq tX7_pass 112 rfl) rfl rfl ?_
                            refine g_getI (n := 227) hx glX7_22 (sX7_3 (by decide)) (dq tX7_pass 113 rfl) rfl (fun h_67l h_67u => ?_)
                            refine g_iald (n := 228) (q := (M_23 7 3).toNat) hx (aX7_0 (b := 7) (by decide)) (dq tX7_pass 114 rfl) rfl (by omega) (by omega) (by omega) rfl (fun h_68l h_68u => ?_)
                            refine g_iload_n (n := 229) hx 2 (dq tX7_pass 115 rfl) rfl rfl ?_
                            refine g_icmp_lt (n := 232) (t := 258) hx (dq tX7_pass 116 rfl) (by decide) rfl (zrI h_68l h_68u (by decide) (by decide)) ⟨by decide, by decide⟩ (fun c_69 => ?_) (fun c_69 => ?_)
                            · exact g_vret hx hr (dq tX7_pass 131 rfl) (fun u_ v_ huv_ => ((((m_24 u_ v_ (by omega)).trans (m_16 u_ v_ (by omega))).trans (f_7 u_ v_ (by omega))).trans (m_3 u_ v_ (by omega))))
                            · omega
                    exact L_58 _ rfl
                  · refine g_aload_n (n := 186) hx 3 (dq tX7_pass 93 rfl) rfl rfl ?_
                    refine g_getI (n := 189) hx glX7_31 (sX7_4 (by decide)) (dq tX7_pass 94 rfl) rfl (fun h_70l h_70u => ?_)
                    refine g_bipush (n := 191) hx (dq tX7_pass 95 rfl) rfl (by decide) ?_
                    refine g_icmp_gt (n := 194) (t := 200) hx (dq tX7_pass 96 rfl) (by decide) rfl (zrI h_70l h_70u (by decide) (by decide)) ⟨by decide, by decide⟩ (fun c_71 => ?_) (fun c_71 => ?_)
                    · have L_72 : ∀ (n_ : Nat), ((400 - M_23 7 3).toNat = n_) → G Γ x 4 (QV Γ x (qctX7_pass M)) M_23 200 [(3, vI (M_23 7 1)), (2, vI 256), (1, vI 256), (0, aR Γ 7)] [] := by
                        intro n_
                        induction n_ using Nat.strongRecOn with
                        | _ n_ ih_73 =>
                          intro hm_75
                          refine g_aload_n (n := 201) hx 3 (dq tX7_pass 101 rfl) rfl rfl ?_
                          refine g_getI (n := 204) hx glX7_22 (sX7_3 (by decide)) (dq tX7_pass 102 rfl) rfl (fun h_76l h_76u => ?_)
                          refine g_aload_n (n := 205) hx 3 (dq tX7_pass 103 rfl) rfl rfl ?_
                          refine g_getI (n := 208) hx glX7_15 (sX7_1 (by decide)) (dq tX7_pass 104 rfl) rfl (fun h_77l h_77u => ?_)
                          refine g_icmp_ge (n := 211) (t := 258) hx (dq tX7_pass 105 rfl) (by decide) rfl (zrI h_76l h_76u (by decide) (by decide)) (zrI h_77l h_77u (by decide) (by decide)) (fun c_78 => ?_) (fun c_78 => ?_)
                          · exact g_vret hx hr (dq tX7_pass 131 rfl) (fun u_ v_ huv_ => ((((m_24 u_ v_ (by omega)).trans (m_16 u_ v_ (by omega))).trans (f_7 u_ v_ (by omega))).trans (m_3 u_ v_ (by omega))))
                          · refine g_aload_n (n := 212) hx 3 (dq tX7_pass 106 rfl) rfl rfl ?_
                            refine g_getI (n := 215) hx glX7_22 (sX7_3 (by decide)) (dq tX7_pass 107 rfl) rfl (fun h_79l h_79u => ?_)
                            refine g_iload_n (n := 216) hx 0 (dq tX7_pass 108 rfl) rfl rfl ?_
                            refine g_icmp_ge (n := 219) (t := 258) hx (dq tX7_pass 109 rfl) (by decide) rfl (zrI h_79l h_79u (by decide) (by decide)) (zrI h_25l h_25u (by decide) (by decide)) (fun c_80 => ?_) (fun c_80 => ?_)
                            · exact g_vret hx hr (dq tX7_pass 131 rfl) (fun u_ v_ huv_ => ((((m_24 u_ v_ (by omega)).trans (m_16 u_ v_ (by omega))).trans (f_7 u_ v_ (by omega))).trans (m_3 u_ v_ (by omega))))
                            · refine g_aload_n (n := 220) hx 3 (dq tX7_pass 110 rfl) rfl rfl ?_
                              refine g_getR (n := 223) hx glX7_9 (sX7_0 (by decide)) (dq tX7_pass 111 rfl) rfl ?_
                              refine g_aload_n (n := 224) hx 3 (dq tX7_pass 112 rfl) rfl rfl ?_
                              refine g_getI (n := 227) hx glX7_22 (sX7_3 (by decide)) (dq tX7_pass 113 rfl) rfl (fun h_81l h_81u => ?_)
                              refine g_iald (n := 228) (q := (M_23 7 3).toNat) hx (aX7_0 (b := 7) (by decide)) (dq tX7_pass 114 rfl) rfl (by omega) (by omega) (by omega) rfl (fun h_82l h_82u => ?_)
                              refine g_iload_n (n := 229) hx 2 (dq tX7_pass 115 rfl) rfl rfl ?_
                              refine g_icmp_lt (n := 232) (t := 258) hx (dq tX7_pass 116 rfl) (by decide) rfl (zrI h_82l h_82u (by decide) (by decide)) ⟨by decide, by decide⟩ (fun c_83 => ?_) (fun c_83 => ?_)
                              · exact g_vret hx hr (dq tX7_pass 131 rfl) (fun u_ v_ huv_ => ((((m_24 u_ v_ (by omega)).trans (m_16 u_ v_ (by omega))).trans (f_7 u_ v_ (by omega))).trans (m_3 u_ v_ (by omega))))
                              · omega
                      exact L_72 _ rfl
                    · refine g_bipush (n := 196) hx (dq tX7_pass 97 rfl) rfl (by decide) ?_
                      refine g_istore_n (n := 197) (lv' := [(1, vI 48), (3, vI (M_23 7 1)), (2, vI 256), (0, aR Γ 7)]) hx (dq tX7_pass 98 rfl) (by decide) rfl rfl ?_
                      refine g_bipush (n := 199) hx (dq tX7_pass 99 rfl) rfl (by decide) ?_
                      refine g_istore_n (n := 200) (lv' := [(2, vI 57), (1, vI 48), (3, vI (M_23 7 1)), (0, aR Γ 7)]) hx (dq tX7_pass 100 rfl) (by decide) rfl rfl ?_
                      have L_85 : ∀ (n_ : Nat) (M_84 : zM), (∀ u_ v_, (u_ ≠ 7 ∨ v_ ≠ 3) → M_84 u_ v_ = M_23 u_ v_) → ((400 - M_84 7 3).toNat = n_) → G Γ x 4 (QV Γ x (qctX7_pass M)) M_84 200 [(2, vI 57), (1, vI 48), (3, vI (M_23 7 1)), (0, aR Γ 7)] [] := by
                        intro n_
                        induction n_ using Nat.strongRecOn with
                        | _ n_ ih_86 =>
                          intro M_84 f_87 hm_88
                          refine g_aload_n (n := 201) hx 3 (dq tX7_pass 101 rfl) rfl rfl ?_
                          refine g_getI (n := 204) hx glX7_22 (sX7_3 (by decide)) (dq tX7_pass 102 rfl) rfl (fun h_89l h_89u => ?_)
                          refine g_aload_n (n := 205) hx 3 (dq tX7_pass 103 rfl) rfl rfl ?_
                          refine g_getI (n := 208) hx glX7_15 (sX7_1 (by decide)) (dq tX7_pass 104 rfl) rfl (fun h_90l h_90u => ?_)
                          have e_91 : M_84 7 1 = M_23 7 1 := (f_87 7 1 (by omega))
                          refine g_icmp_ge (n := 211) (t := 258) hx (dq tX7_pass 105 rfl) (by decide) rfl (zrI h_89l h_89u (by decide) (by decide)) (zrI h_90l h_90u (by decide) (by decide)) (fun c_92 => ?_) (fun c_92 => ?_)
                          · exact g_vret hx hr (dq tX7_pass 131 rfl) (fun u_ v_ huv_ => (((((f_87 u_ v_ (by omega)).trans (m_24 u_ v_ (by omega))).trans (m_16 u_ v_ (by omega))).trans (f_7 u_ v_ (by omega))).trans (m_3 u_ v_ (by omega))))
                          · refine g_aload_n (n := 212) hx 3 (dq tX7_pass 106 rfl) rfl rfl ?_
                            refine g_getI (n := 215) hx glX7_22 (sX7_3 (by decide)) (dq tX7_pass 107 rfl) rfl (fun h_93l h_93u => ?_)
                            refine g_iload_n (n := 216) hx 2 (dq tX7_pass 108 rfl) rfl rfl ?_
                            refine g_icmp_ge (n := 219) (t := 258) hx (dq tX7_pass 109 rfl) (by decide) rfl (zrI h_93l h_93u (by decide) (by decide)) (zrI h_25l h_25u (by decide) (by decide)) (fun c_94 => ?_) (fun c_94 => ?_)
                            · exact g_vret hx hr (dq tX7_pass 131 rfl) (fun u_ v_ huv_ => (((((f_87 u_ v_ (by omega)).trans (m_24 u_ v_ (by omega))).trans (m_16 u_ v_ (by omega))).trans (f_7 u_ v_ (by omega))).trans (m_3 u_ v_ (by omega))))
                            · refine g_aload_n (n := 220) hx 3 (dq tX7_pass 110 rfl) rfl rfl ?_
                              refine g_getR (n := 223) hx glX7_9 (sX7_0 (by decide)) (dq tX7_pass 111 rfl) rfl ?_
                              refine g_aload_n (n := 224) hx 3 (dq tX7_pass 112 rfl) rfl rfl ?_
                              refine g_getI (n := 227) hx glX7_22 (sX7_3 (by decide)) (dq tX7_pass 113 rfl) rfl (fun h_95l h_95u => ?_)
                              refine g_iald (n := 228) (q := (M_84 7 3).toNat) hx (aX7_0 (b := 7) (by decide)) (dq tX7_pass 114 rfl) rfl (by omega) (by omega) (by omega) rfl (fun h_96l h_96u => ?_)
                              refine g_iload_n (n := 229) hx 1 (dq tX7_pass 115 rfl) rfl rfl ?_
                              refine g_icmp_lt (n := 232) (t := 258) hx (dq tX7_pass 116 rfl) (by decide) rfl (zrI h_96l h_96u (by decide) (by decide)) ⟨by decide, by decide⟩ (fun c_97 => ?_) (fun c_97 => ?_)
                              · exact g_vret hx hr (dq tX7_pass 131 rfl) (fun u_ v_ huv_ => (((((f_87 u_ v_ (by omega)).trans (m_24 u_ v_ (by omega))).trans (m_16 u_ v_ (by omega))).trans (f_7 u_ v_ (by omega))).trans (m_3 u_ v_ (by omega))))
                              · refine g_aload_n (n := 233) hx 3 (dq tX7_pass 117 rfl) rfl rfl ?_
                                refine g_getR (n := 236) hx glX7_9 (sX7_0 (by decide)) (dq tX7_pass 118 rfl) rfl ?_
                                refine g_aload_n (n := 237) hx 3 (dq tX7_pass 119 rfl) rfl rfl ?_
                                refine g_getI (n := 240) hx glX7_22 (sX7_3 (by decide)) (dq tX7_pass 120 rfl) rfl (fun h_98l h_98u => ?_)
                                refine g_iald (n := 241) (q := (M_84 7 3).toNat) hx (aX7_0 (b := 7) (by decide)) (dq tX7_pass 121 rfl) rfl (by omega) (by omega) (by omega) rfl (fun h_99l h_99u => ?_)
                                refine g_iload_n (n := 242) hx 0 (dq tX7_pass 122 rfl) rfl rfl ?_
                                refine g_icmp_gt (n := 245) (t := 258) hx (dq tX7_pass 123 rfl) (by decide) rfl (zrI h_99l h_99u (by decide) (by decide)) ⟨by decide, by decide⟩ (fun c_100 => ?_) (fun c_100 => ?_)
                                · exact g_vret hx hr (dq tX7_pass 131 rfl) (fun u_ v_ huv_ => (((((f_87 u_ v_ (by omega)).trans (m_24 u_ v_ (by omega))).trans (m_16 u_ v_ (by omega))).trans (f_7 u_ v_ (by omega))).trans (m_3 u_ v_ (by omega))))
                                · refine g_aload_n (n := 246) hx 3 (dq tX7_pass 124 rfl) rfl rfl ?_
                                  refine g_dup (n := 247) hx (dq tX7_pass 125 rfl) rfl rfl ?_
                                  refine g_getI (n := 250) hx glX7_22 (sX7_3 (by decide)) (dq tX7_pass 126 rfl) rfl (fun h_101l h_101u => ?_)
                                  refine g_iconst (n := 251) hx (dq tX7_pass 127 rfl) rfl ?_
                                  refine g_iadd (n := 252) hx (dq tX7_pass 128 rfl) rfl ?_
                                  refine g_putI (n := 255) hx plX7_22 (sX7_3 (by decide)) (dq tX7_pass 129 rfl) rfl (by omega) (by omega) (fun M_102 m_103e m_103 => ?_)
                                  refine g_goto (n := 200) hx (dq tX7_pass 130 rfl) (by decide) ?_
                                  exact ih_86 _ (by omega) M_102 (fun u_ v_ huv_ => ((m_103 u_ v_ (by omega)).trans (f_87 u_ v_ (by omega)))) rfl
                      exact L_85 _ M_23 (fun _ _ _ => rfl) rfl
                · refine g_aload_n (n := 159) hx 3 (dq tX7_pass 80 rfl) rfl rfl ?_
                  refine g_getI (n := 162) hx glX7_31 (sX7_4 (by decide)) (dq tX7_pass 81 rfl) rfl (fun h_104l h_104u => ?_)
                  refine g_bipush (n := 164) hx (dq tX7_pass 82 rfl) rfl (by decide) ?_
                  refine g_icmp_gt (n := 167) (t := 176) hx (dq tX7_pass 83 rfl) (by decide) rfl (zrI h_104l h_104u (by decide) (by decide)) ⟨by decide, by decide⟩ (fun c_105 => ?_) (fun c_105 => ?_)
                  · refine g_aload_n (n := 177) hx 3 (dq tX7_pass 89 rfl) rfl rfl ?_
                    refine g_getI (n := 180) hx glX7_31 (sX7_4 (by decide)) (dq tX7_pass 90 rfl) rfl (fun h_106l h_106u => ?_)
                    refine g_bipush (n := 182) hx (dq tX7_pass 91 rfl) rfl (by decide) ?_
                    refine g_icmp_lt (n := 185) (t := 200) hx (dq tX7_pass 92 rfl) (by decide) rfl (zrI h_106l h_106u (by decide) (by decide)) ⟨by decide, by decide⟩ (fun c_107 => ?_) (fun c_107 => ?_)
                    · omega
                    · refine g_aload_n (n := 186) hx 3 (dq tX7_pass 93 rfl) rfl rfl ?_
                      refine g_getI (n := 189) hx glX7_31 (sX7_4 (by decide)) (dq tX7_pass 94 rfl) rfl (fun h_108l h_108u => ?_)
                      refine g_bipush (n := 191) hx (dq tX7_pass 95 rfl) rfl (by decide) ?_
                      refine g_icmp_gt (n := 194) (t := 200) hx (dq tX7_pass 96 rfl) (by decide) rfl (zrI h_108l h_108u (by decide) (by decide)) ⟨by decide, by decide⟩ (fun c_109 => ?_) (fun c_109 => ?_)
                      · have L_110 : ∀ (n_ : Nat), ((400 - M_23 7 3).toNat = n_) → G Γ x 4 (QV Γ x (qctX7_pass M)) M_23 200 [(3, vI (M_23 7 1)), (2, vI 256), (1, vI 256), (0, aR Γ 7)] [] := by
                          intro n_
                          induction n_ using Nat.strongRecOn with
                          | _ n_ ih_111 =>
                            intro hm_113
                            refine g_aload_n (n := 201) hx 3 (dq tX7_pass 101 rfl) rfl rfl ?_
                            refine g_getI (n := 204) hx glX7_22 (sX7_3 (by decide)) (dq tX7_pass 102 rfl) rfl (fun h_114l h_114u => ?_)
                            refine g_aload_n (n := 205) hx 3 (dq tX7_pass 103 rfl) rfl rfl ?_
                            refine g_getI (n := 208) hx glX7_15 (sX7_1 (by decide)) (dq tX7_pass 104 rfl) rfl (fun h_115l h_115u => ?_)
                            refine g_icmp_ge (n := 211) (t := 258) hx (dq tX7_pass 105 rfl) (by decide) rfl (zrI h_114l h_114u (by decide) (by decide)) (zrI h_115l h_115u (by decide) (by decide)) (fun c_116 => ?_) (fun c_116 => ?_)
                            · exact g_vret hx hr (dq tX7_pass 131 rfl) (fun u_ v_ huv_ => ((((m_24 u_ v_ (by omega)).trans (m_16 u_ v_ (by omega))).trans (f_7 u_ v_ (by omega))).trans (m_3 u_ v_ (by omega))))
                            · refine g_aload_n (n := 212) hx 3 (dq tX7_pass 106 rfl) rfl rfl ?_
                              refine g_getI (n := 215) hx glX7_22 (sX7_3 (by decide)) (dq tX7_pass 107 rfl) rfl (fun h_117l h_117u => ?_)
                              refine g_iload_n (n := 216) hx 0 (dq tX7_pass 108 rfl) rfl rfl ?_
                              refine g_icmp_ge (n := 219) (t := 258) hx (dq tX7_pass 109 rfl) (by decide) rfl (zrI h_117l h_117u (by decide) (by decide)) (zrI h_25l h_25u (by decide) (by decide)) (fun c_118 => ?_) (fun c_118 => ?_)
                              · exact g_vret hx hr (dq tX7_pass 131 rfl) (fun u_ v_ huv_ => ((((m_24 u_ v_ (by omega)).trans (m_16 u_ v_ (by omega))).trans (f_7 u_ v_ (by omega))).trans (m_3 u_ v_ (by omega))))
                              · refine g_aload_n (n := 220) hx 3 (dq tX7_pass 110 rfl) rfl rfl ?_
                                refine g_getR (n := 223) hx glX7_9 (sX7_0 (by decide)) (dq tX7_pass 111 rfl) rfl ?_
                                refine g_aload_n (n := 224) hx 3 (dq tX7_pass 112 rfl) rfl rfl ?_
                                refine g_getI (n := 227) hx glX7_22 (sX7_3 (by decide)) (dq tX7_pass 113 rfl) rfl (fun h_119l h_119u => ?_)
                                refine g_iald (n := 228) (q := (M_23 7 3).toNat) hx (aX7_0 (b := 7) (by decide)) (dq tX7_pass 114 rfl) rfl (by omega) (by omega) (by omega) rfl (fun h_120l h_120u => ?_)
                                refine g_iload_n (n := 229) hx 2 (dq tX7_pass 115 rfl) rfl rfl ?_
                                refine g_icmp_lt (n := 232) (t := 258) hx (dq tX7_pass 116 rfl) (by decide) rfl (zrI h_120l h_120u (by decide) (by decide)) ⟨by decide, by decide⟩ (fun c_121 => ?_) (fun c_121 => ?_)
                                · exact g_vret hx hr (dq tX7_pass 131 rfl) (fun u_ v_ huv_ => ((((m_24 u_ v_ (by omega)).trans (m_16 u_ v_ (by omega))).trans (f_7 u_ v_ (by omega))).trans (m_3 u_ v_ (by omega))))
                                · omega
                        exact L_110 _ rfl
                      · omega
                  · refine g_bipush (n := 169) hx (dq tX7_pass 84 rfl) rfl (by decide) ?_
                    refine g_istore_n (n := 170) (lv' := [(1, vI 97), (3, vI (M_23 7 1)), (2, vI 256), (0, aR Γ 7)]) hx (dq tX7_pass 85 rfl) (by decide) rfl rfl ?_
                    refine g_bipush (n := 172) hx (dq tX7_pass 86 rfl) rfl (by decide) ?_
                    refine g_istore_n (n := 173) (lv' := [(2, vI 122), (1, vI 97), (3, vI (M_23 7 1)), (0, aR Γ 7)]) hx (dq tX7_pass 87 rfl) (by decide) rfl rfl ?_
                    refine g_goto (n := 200) hx (dq tX7_pass 88 rfl) (by decide) ?_
                    have L_123 : ∀ (n_ : Nat) (M_122 : zM), (∀ u_ v_, (u_ ≠ 7 ∨ v_ ≠ 3) → M_122 u_ v_ = M_23 u_ v_) → ((400 - M_122 7 3).toNat = n_) → G Γ x 4 (QV Γ x (qctX7_pass M)) M_122 200 [(2, vI 122), (1, vI 97), (3, vI (M_23 7 1)), (0, aR Γ 7)] [] := by
                      intro n_
                      induction n_ using Nat.strongRecOn with
                      | _ n_ ih_124 =>
                        intro M_122 f_125 hm_126
                        refine g_aload_n (n := 201) hx 3 (dq tX7_pass 101 rfl) rfl rfl ?_
                        refine g_getI (n := 204) hx glX7_22 (sX7_3 (by decide)) (dq tX7_pass 102 rfl) rfl (fun h_127l h_127u => ?_)
                        refine g_aload_n (n := 205) hx 3 (dq tX7_pass 103 rfl) rfl rfl ?_
                        refine g_getI (n := 208) hx glX7_15 (sX7_1 (by decide)) (dq tX7_pass 104 rfl) rfl (fun h_128l h_128u => ?_)
                        have e_129 : M_122 7 1 = M_23 7 1 := (f_125 7 1 (by omega))
                        refine g_icmp_ge (n := 211) (t := 258) hx (dq tX7_pass 105 rfl) (by decide) rfl (zrI h_127l h_127u (by decide) (by decide)) (zrI h_128l h_128u (by decide) (by decide)) (fun c_130 => ?_) (fun c_130 => ?_)
                        · exact g_vret hx hr (dq tX7_pass 131 rfl) (fun u_ v_ huv_ => (((((f_125 u_ v_ (by omega)).trans (m_24 u_ v_ (by omega))).trans (m_16 u_ v_ (by omega))).trans (f_7 u_ v_ (by omega))).trans (m_3 u_ v_ (by omega))))
                        · refine g_aload_n (n := 212) hx 3 (dq tX7_pass 106 rfl) rfl rfl ?_
                          refine g_getI (n := 215) hx glX7_22 (sX7_3 (by decide)) (dq tX7_pass 107 rfl) rfl (fun h_131l h_131u => ?_)
                          refine g_iload_n (n := 216) hx 2 (dq tX7_pass 108 rfl) rfl rfl ?_
                          refine g_icmp_ge (n := 219) (t := 258) hx (dq tX7_pass 109 rfl) (by decide) rfl (zrI h_131l h_131u (by decide) (by decide)) (zrI h_25l h_25u (by decide) (by decide)) (fun c_132 => ?_) (fun c_132 => ?_)
                          · exact g_vret hx hr (dq tX7_pass 131 rfl) (fun u_ v_ huv_ => (((((f_125 u_ v_ (by omega)).trans (m_24 u_ v_ (by omega))).trans (m_16 u_ v_ (by omega))).trans (f_7 u_ v_ (by omega))).trans (m_3 u_ v_ (by omega))))
                          · refine g_aload_n (n := 220) hx 3 (dq tX7_pass 110 rfl) rfl rfl ?_
                            refine g_getR (n := 223) hx glX7_9 (sX7_0 (by decide)) (dq tX7_pass 111 rfl) rfl ?_
                            refine g_aload_n (n := 224) hx 3 (dq tX7_pass 112 rfl) rfl rfl ?_
                            refine g_getI (n := 227) hx glX7_22 (sX7_3 (by decide)) (dq tX7_pass 113 rfl) rfl (fun h_133l h_133u => ?_)
                            refine g_iald (n := 228) (q := (M_122 7 3).toNat) hx (aX7_0 (b := 7) (by decide)) (dq tX7_pass 114 rfl) rfl (by omega) (by omega) (by omega) rfl (fun h_134l h_134u => ?_)
                            refine g_iload_n (n := 229) hx 1 (dq tX7_pass 115 rfl) rfl rfl ?_
                            refine g_icmp_lt (n := 232) (t := 258) hx (dq tX7_pass 116 rfl) (by decide) rfl (zrI h_134l h_134u (by decide) (by decide)) ⟨by decide, by decide⟩ (fun c_135 => ?_) (fun c_135 => ?_)
                            · exact g_vret hx hr (dq tX7_pass 131 rfl) (fun u_ v_ huv_ => (((((f_125 u_ v_ (by omega)).trans (m_24 u_ v_ (by omega))).trans (m_16 u_ v_ (by omega))).trans (f_7 u_ v_ (by omega))).trans (m_3 u_ v_ (by omega))))
                            · refine g_aload_n (n := 233) hx 3 (dq tX7_pass 117 rfl) rfl rfl ?_
                              refine g_getR (n := 236) hx glX7_9 (sX7_0 (by decide)) (dq tX7_pass 118 rfl) rfl ?_
                              refine g_aload_n (n := 237) hx 3 (dq tX7_pass 119 rfl) rfl rfl ?_
                              refine g_getI (n := 240) hx glX7_22 (sX7_3 (by decide)) (dq tX7_pass 120 rfl) rfl (fun h_136l h_136u => ?_)
                              refine g_iald (n := 241) (q := (M_122 7 3).toNat) hx (aX7_0 (b := 7) (by decide)) (dq tX7_pass 121 rfl) rfl (by omega) (by omega) (by omega) rfl (fun h_137l h_137u => ?_)
                              refine g_iload_n (n := 242) hx 0 (dq tX7_pass 122 rfl) rfl rfl ?_
                              refine g_icmp_gt (n := 245) (t := 258) hx (dq tX7_pass 123 rfl) (by decide) rfl (zrI h_137l h_137u (by decide) (by decide)) ⟨by decide, by decide⟩ (fun c_138 => ?_) (fun c_138 => ?_)
                              · exact g_vret hx hr (dq tX7_pass 131 rfl) (fun u_ v_ huv_ => (((((f_125 u_ v_ (by omega)).trans (m_24 u_ v_ (by omega))).trans (m_16 u_ v_ (by omega))).trans (f_7 u_ v_ (by omega))).trans (m_3 u_ v_ (by omega))))
                              · refine g_aload_n (n := 246) hx 3 (dq tX7_pass 124 rfl) rfl rfl ?_
                                refine g_dup (n := 247) hx (dq tX7_pass 125 rfl) rfl rfl ?_
                                refine g_getI (n := 250) hx glX7_22 (sX7_3 (by decide)) (dq tX7_pass 126 rfl) rfl (fun h_139l h_139u => ?_)
                                refine g_iconst (n := 251) hx (dq tX7_pass 127 rfl) rfl ?_
                                refine g_iadd (n := 252) hx (dq tX7_pass 128 rfl) rfl ?_
                                refine g_putI (n := 255) hx plX7_22 (sX7_3 (by decide)) (dq tX7_pass 129 rfl) rfl (by omega) (by omega) (fun M_140 m_141e m_141 => ?_)
                                refine g_goto (n := 200) hx (dq tX7_pass 130 rfl) (by decide) ?_
                                exact ih_124 _ (by omega) M_140 (fun u_ v_ huv_ => ((m_141 u_ v_ (by omega)).trans (f_125 u_ v_ (by omega)))) rfl
                    exact L_123 _ M_23 (fun _ _ _ => rfl) rfl
              · refine g_bipush (n := 135) hx (dq tX7_pass 66 rfl) rfl (by decide) ?_
                refine g_istore_n (n := 136) (lv' := [(1, vI 61), (3, vI (M_23 7 1)), (2, vI 256), (0, aR Γ 7)]) hx (dq tX7_pass 67 rfl) (by decide) rfl rfl ?_
                refine g_bipush (n := 138) hx (dq tX7_pass 68 rfl) rfl (by decide) ?_
                refine g_istore_n (n := 139) (lv' := [(2, vI 61), (1, vI 61), (3, vI (M_23 7 1)), (0, aR Γ 7)]) hx (dq tX7_pass 69 rfl) (by decide) rfl rfl ?_
                refine g_aload_n (n := 140) hx 3 (dq tX7_pass 70 rfl) rfl rfl ?_
                refine g_getI (n := 143) hx glX7_28 (sX7_2 (by decide)) (dq tX7_pass 71 rfl) rfl (fun h_142l h_142u => ?_)
                have e_143 : M_23 7 2 = M_15 7 2 := (m_24 7 2 (by omega))
                refine g_iconst (n := 144) hx (dq tX7_pass 72 rfl) rfl ?_
                refine g_iadd (n := 145) hx (dq tX7_pass 73 rfl) rfl ?_
                refine g_istore_n (n := 146) (lv' := [(3, vI ((M_23 7 2) + 2)), (2, vI 61), (1, vI 61), (0, aR Γ 7)]) hx (dq tX7_pass 74 rfl) (by decide) rfl rfl ?_
                refine g_goto (n := 200) hx (dq tX7_pass 75 rfl) (by decide) ?_
                have L_145 : ∀ (n_ : Nat) (M_144 : zM), (∀ u_ v_, (u_ ≠ 7 ∨ v_ ≠ 3) → M_144 u_ v_ = M_23 u_ v_) → ((400 - M_144 7 3).toNat = n_) → G Γ x 4 (QV Γ x (qctX7_pass M)) M_144 200 [(3, vI ((M_23 7 2) + 2)), (2, vI 61), (1, vI 61), (0, aR Γ 7)] [] := by
                  intro n_
                  induction n_ using Nat.strongRecOn with
                  | _ n_ ih_146 =>
                    intro M_144 f_147 hm_148
                    refine g_aload_n (n := 201) hx 3 (dq tX7_pass 101 rfl) rfl rfl ?_
                    refine g_getI (n := 204) hx glX7_22 (sX7_3 (by decide)) (dq tX7_pass 102 rfl) rfl (fun h_149l h_149u => ?_)
                    refine g_aload_n (n := 205) hx 3 (dq tX7_pass 103 rfl) rfl rfl ?_
                    refine g_getI (n := 208) hx glX7_15 (sX7_1 (by decide)) (dq tX7_pass 104 rfl) rfl (fun h_150l h_150u => ?_)
                    have e_151 : M_144 7 1 = M_23 7 1 := (f_147 7 1 (by omega))
                    refine g_icmp_ge (n := 211) (t := 258) hx (dq tX7_pass 105 rfl) (by decide) rfl (zrI h_149l h_149u (by decide) (by decide)) (zrI h_150l h_150u (by decide) (by decide)) (fun c_152 => ?_) (fun c_152 => ?_)
                    · exact g_vret hx hr (dq tX7_pass 131 rfl) (fun u_ v_ huv_ => (((((f_147 u_ v_ (by omega)).trans (m_24 u_ v_ (by omega))).trans (m_16 u_ v_ (by omega))).trans (f_7 u_ v_ (by omega))).trans (m_3 u_ v_ (by omega))))
                    · refine g_aload_n (n := 212) hx 3 (dq tX7_pass 106 rfl) rfl rfl ?_
                      refine g_getI (n := 215) hx glX7_22 (sX7_3 (by decide)) (dq tX7_pass 107 rfl) rfl (fun h_153l h_153u => ?_)
                      refine g_iload_n (n := 216) hx 0 (dq tX7_pass 108 rfl) rfl rfl ?_
                      refine g_icmp_ge (n := 219) (t := 258) hx (dq tX7_pass 109 rfl) (by decide) rfl (zrI h_153l h_153u (by decide) (by decide)) ⟨by omega, by omega⟩ (fun c_154 => ?_) (fun c_154 => ?_)
                      · exact g_vret hx hr (dq tX7_pass 131 rfl) (fun u_ v_ huv_ => (((((f_147 u_ v_ (by omega)).trans (m_24 u_ v_ (by omega))).trans (m_16 u_ v_ (by omega))).trans (f_7 u_ v_ (by omega))).trans (m_3 u_ v_ (by omega))))
                      · refine g_aload_n (n := 220) hx 3 (dq tX7_pass 110 rfl) rfl rfl ?_
                        refine g_getR (n := 223) hx glX7_9 (sX7_0 (by decide)) (dq tX7_pass 111 rfl) rfl ?_
                        refine g_aload_n (n := 224) hx 3 (dq tX7_pass 112 rfl) rfl rfl ?_
                        refine g_getI (n := 227) hx glX7_22 (sX7_3 (by decide)) (dq tX7_pass 113 rfl) rfl (fun h_155l h_155u => ?_)
                        refine g_iald (n := 228) (q := (M_144 7 3).toNat) hx (aX7_0 (b := 7) (by decide)) (dq tX7_pass 114 rfl) rfl (by omega) (by omega) (by omega) rfl (fun h_156l h_156u => ?_)
                        refine g_iload_n (n := 229) hx 2 (dq tX7_pass 115 rfl) rfl rfl ?_
                        refine g_icmp_lt (n := 232) (t := 258) hx (dq tX7_pass 116 rfl) (by decide) rfl (zrI h_156l h_156u (by decide) (by decide)) ⟨by decide, by decide⟩ (fun c_157 => ?_) (fun c_157 => ?_)
                        · exact g_vret hx hr (dq tX7_pass 131 rfl) (fun u_ v_ huv_ => (((((f_147 u_ v_ (by omega)).trans (m_24 u_ v_ (by omega))).trans (m_16 u_ v_ (by omega))).trans (f_7 u_ v_ (by omega))).trans (m_3 u_ v_ (by omega))))
                        · refine g_aload_n (n := 233) hx 3 (dq tX7_pass 117 rfl) rfl rfl ?_
                          refine g_getR (n := 236) hx glX7_9 (sX7_0 (by decide)) (dq tX7_pass 118 rfl) rfl ?_
                          refine g_aload_n (n := 237) hx 3 (dq tX7_pass 119 rfl) rfl rfl ?_
                          refine g_getI (n := 240) hx glX7_22 (sX7_3 (by decide)) (dq tX7_pass 120 rfl) rfl (fun h_158l h_158u => ?_)
                          refine g_iald (n := 241) (q := (M_144 7 3).toNat) hx (aX7_0 (b := 7) (by decide)) (dq tX7_pass 121 rfl) rfl (by omega) (by omega) (by omega) rfl (fun h_159l h_159u => ?_)
                          refine g_iload_n (n := 242) hx 1 (dq tX7_pass 122 rfl) rfl rfl ?_
                          refine g_icmp_gt (n := 245) (t := 258) hx (dq tX7_pass 123 rfl) (by decide) rfl (zrI h_159l h_159u (by decide) (by decide)) ⟨by decide, by decide⟩ (fun c_160 => ?_) (fun c_160 => ?_)
                          · exact g_vret hx hr (dq tX7_pass 131 rfl) (fun u_ v_ huv_ => (((((f_147 u_ v_ (by omega)).trans (m_24 u_ v_ (by omega))).trans (m_16 u_ v_ (by omega))).trans (f_7 u_ v_ (by omega))).trans (m_3 u_ v_ (by omega))))
                          · refine g_aload_n (n := 246) hx 3 (dq tX7_pass 124 rfl) rfl rfl ?_
                            refine g_dup (n := 247) hx (dq tX7_pass 125 rfl) rfl rfl ?_
                            refine g_getI (n := 250) hx glX7_22 (sX7_3 (by decide)) (dq tX7_pass 126 rfl) rfl (fun h_161l h_161u => ?_)
                            refine g_iconst (n := 251) hx (dq tX7_pass 127 rfl) rfl ?_
                            refine g_iadd (n := 252) hx (dq tX7_pass 128 rfl) rfl ?_
                            refine g_putI (n := 255) hx plX7_22 (sX7_3 (by decide)) (dq tX7_pass 129 rfl) rfl (by omega) (by omega) (fun M_162 m_163e m_163 => ?_)
                            refine g_goto (n := 200) hx (dq tX7_pass 130 rfl) (by decide) ?_
                            exact ih_146 _ (by omega) M_162 (fun u_ v_ huv_ => ((m_163 u_ v_ (by omega)).trans (f_147 u_ v_ (by omega)))) rfl
                exact L_145 _ M_23 (fun _ _ _ => rfl) rfl
          · refine g_aload_n (n := 87) hx 0 (dq tX7_pass 43 rfl) rfl rfl ?_
            refine g_getI (n := 90) hx glX7_28 (sX7_2 (by decide)) (dq tX7_pass 44 rfl) rfl (fun h_164l h_164u => ?_)
            refine g_iconst (n := 91) hx (dq tX7_pass 45 rfl) rfl ?_
            refine g_iadd (n := 92) hx (dq tX7_pass 46 rfl) rfl ?_
            refine g_goto (n := 99) hx (dq tX7_pass 47 rfl) (by decide) ?_
            refine g_putI (n := 102) hx plX7_22 (sX7_3 (by decide)) (dq tX7_pass 50 rfl) rfl (by omega) (by omega) (fun M_165 m_166e m_166 => ?_)
            refine g_sipush (n := 105) hx (dq tX7_pass 51 rfl) rfl (by decide) ?_
            refine g_istore_n (n := 106) (lv' := [(1, vI 256), (0, aR Γ 7)]) hx (dq tX7_pass 52 rfl) (by decide) rfl rfl ?_
            refine g_sipush (n := 109) hx (dq tX7_pass 53 rfl) rfl (by decide) ?_
            refine g_istore_n (n := 110) (lv' := [(2, vI 256), (1, vI 256), (0, aR Γ 7)]) hx (dq tX7_pass 54 rfl) (by decide) rfl rfl ?_
            refine g_aload_n (n := 111) hx 2 (dq tX7_pass 55 rfl) rfl rfl ?_
            refine g_getI (n := 114) hx glX7_15 (sX7_1 (by decide)) (dq tX7_pass 56 rfl) rfl (fun h_167l h_167u => ?_)
            have e_168 : M_165 7 1 = M_15 7 1 := (m_166 7 1 (by omega))
            refine g_istore_n (n := 115) (lv' := [(3, vI (M_165 7 1)), (2, vI 256), (1, vI 256), (0, aR Γ 7)]) hx (dq tX7_pass 57 rfl) (by decide) rfl rfl ?_
            refine g_aload_n (n := 116) hx 3 (dq tX7_pass 58 rfl) rfl rfl ?_
            refine g_getI (n := 119) hx glX7_31 (sX7_4 (by decide)) (dq tX7_pass 59 rfl) rfl (fun h_169l h_169u => ?_)
            have e_170 : M_165 7 4 = M_15 7 4 := (m_166 7 4 (by omega))
            refine g_bipush (n := 121) hx (dq tX7_pass 60 rfl) rfl (by decide) ?_
            refine g_icmp_eq (n := 124) (t := 133) hx (dq tX7_pass 61 rfl) (by decide) rfl (zrI h_169l h_169u (by decide) (by decide)) ⟨by decide, by decide⟩ (fun c_171 => ?_) (fun c_171 => ?_)
            · refine g_bipush (n := 135) hx (dq tX7_pass 66 rfl) rfl (by decide) ?_
              refine g_istore_n (n := 136) (lv' := [(1, vI 61), (3, vI (M_165 7 1)), (2, vI 256), (0, aR Γ 7)]) hx (dq tX7_pass 67 rfl) (by decide) rfl rfl ?_
              refine g_bipush (n := 138) hx (dq tX7_pass 68 rfl) rfl (by decide) ?_
              refine g_istore_n (n := 139) (lv' := [(2, vI 61), (1, vI 61), (3, vI (M_165 7 1)), (0, aR Γ 7)]) hx (dq tX7_pass 69 rfl) (by decide) rfl rfl ?_
              refine g_aload_n (n := 140) hx 3 (dq tX7_pass 70 rfl) rfl rfl ?_
              refine g_getI (n := 143) hx glX7_28 (sX7_2 (by decide)) (dq tX7_pass 71 rfl) rfl (fun h_172l h_172u => ?_)
              have e_173 : M_165 7 2 = M_15 7 2 := (m_166 7 2 (by omega))
              refine g_iconst (n := 144) hx (dq tX7_pass 72 rfl) rfl ?_
              refine g_iadd (n := 145) hx (dq tX7_pass 73 rfl) rfl ?_
              refine g_istore_n (n := 146) (lv' := [(3, vI ((M_165 7 2) + 2)), (2, vI 61), (1, vI 61), (0, aR Γ 7)]) hx (dq tX7_pass 74 rfl) (by decide) rfl rfl ?_
              refine g_goto (n := 200) hx (dq tX7_pass 75 rfl) (by decide) ?_
              have L_175 : ∀ (n_ : Nat) (M_174 : zM), (∀ u_ v_, (u_ ≠ 7 ∨ v_ ≠ 3) → M_174 u_ v_ = M_165 u_ v_) → ((400 - M_174 7 3).toNat = n_) → G Γ x 4 (QV Γ x (qctX7_pass M)) M_174 200 [(3, vI ((M_165 7 2) + 2)), (2, vI 61), (1, vI 61), (0, aR Γ 7)] [] := by
                intro n_
                induction n_ using Nat.strongRecOn with
                | _ n_ ih_176 =>
                  intro M_174 f_177 hm_178
                  refine g_aload_n (n := 201) hx 3 (dq tX7_pass 101 rfl) rfl rfl ?_
                  refine g_getI (n := 204) hx glX7_22 (sX7_3 (by decide)) (dq tX7_pass 102 rfl) rfl (fun h_179l h_179u => ?_)
                  refine g_aload_n (n := 205) hx 3 (dq tX7_pass 103 rfl) rfl rfl ?_
                  refine g_getI (n := 208) hx glX7_15 (sX7_1 (by decide)) (dq tX7_pass 104 rfl) rfl (fun h_180l h_180u => ?_)
                  have e_181 : M_174 7 1 = M_165 7 1 := (f_177 7 1 (by omega))
                  refine g_icmp_ge (n := 211) (t := 258) hx (dq tX7_pass 105 rfl) (by decide) rfl (zrI h_179l h_179u (by decide) (by decide)) (zrI h_180l h_180u (by decide) (by decide)) (fun c_182 => ?_) (fun c_182 => ?_)
                  · exact g_vret hx hr (dq tX7_pass 131 rfl) (fun u_ v_ huv_ => (((((f_177 u_ v_ (by omega)).trans (m_166 u_ v_ (by omega))).trans (m_16 u_ v_ (by omega))).trans (f_7 u_ v_ (by omega))).trans (m_3 u_ v_ (by omega))))
                  · refine g_aload_n (n := 212) hx 3 (dq tX7_pass 106 rfl) rfl rfl ?_
                    refine g_getI (n := 215) hx glX7_22 (sX7_3 (by decide)) (dq tX7_pass 107 rfl) rfl (fun h_183l h_183u => ?_)
                    refine g_iload_n (n := 216) hx 0 (dq tX7_pass 108 rfl) rfl rfl ?_
                    refine g_icmp_ge (n := 219) (t := 258) hx (dq tX7_pass 109 rfl) (by decide) rfl (zrI h_183l h_183u (by decide) (by decide)) ⟨by omega, by omega⟩ (fun c_184 => ?_) (fun c_184 => ?_)
                    · exact g_vret hx hr (dq tX7_pass 131 rfl) (fun u_ v_ huv_ => (((((f_177 u_ v_ (by omega)).trans (m_166 u_ v_ (by omega))).trans (m_16 u_ v_ (by omega))).trans (f_7 u_ v_ (by omega))).trans (m_3 u_ v_ (by omega))))
                    · refine g_aload_n (n := 220) hx 3 (dq tX7_pass 110 rfl) rfl rfl ?_
                      refine g_getR (n := 223) hx glX7_9 (sX7_0 (by decide)) (dq tX7_pass 111 rfl) rfl ?_
                      refine g_aload_n (n := 224) hx 3 (dq tX7_pass 112 rfl) rfl rfl ?_
                      refine g_getI (n := 227) hx glX7_22 (sX7_3 (by decide)) (dq tX7_pass 113 rfl) rfl (fun h_185l h_185u => ?_)
                      refine g_iald (n := 228) (q := (M_174 7 3).toNat) hx (aX7_0 (b := 7) (by decide)) (dq tX7_pass 114 rfl) rfl (by omega) (by omega) (by omega) rfl (fun h_186l h_186u => ?_)
                      refine g_iload_n (n := 229) hx 2 (dq tX7_pass 115 rfl) rfl rfl ?_
                      refine g_icmp_lt (n := 232) (t := 258) hx (dq tX7_pass 116 rfl) (by decide) rfl (zrI h_186l h_186u (by decide) (by decide)) ⟨by decide, by decide⟩ (fun c_187 => ?_) (fun c_187 => ?_)
                      · exact g_vret hx hr (dq tX7_pass 131 rfl) (fun u_ v_ huv_ => (((((f_177 u_ v_ (by omega)).trans (m_166 u_ v_ (by omega))).trans (m_16 u_ v_ (by omega))).trans (f_7 u_ v_ (by omega))).trans (m_3 u_ v_ (by omega))))
                      · refine g_aload_n (n := 233) hx 3 (dq tX7_pass 117 rfl) rfl rfl ?_
                        refine g_getR (n := 236) hx glX7_9 (sX7_0 (by decide)) (dq tX7_pass 118 rfl) rfl ?_
                        refine g_aload_n (n := 237) hx 3 (dq tX7_pass 119 rfl) rfl rfl ?_
                        refine g_getI (n := 240) hx glX7_22 (sX7_3 (by decide)) (dq tX7_pass 120 rfl) rfl (fun h_188l h_188u => ?_)
                        refine g_iald (n := 241) (q := (M_174 7 3).toNat) hx (aX7_0 (b := 7) (by decide)) (dq tX7_pass 121 rfl) rfl (by omega) (by omega) (by omega) rfl (fun h_189l h_189u => ?_)
                        refine g_iload_n (n := 242) hx 1 (dq tX7_pass 122 rfl) rfl rfl ?_
                        refine g_icmp_gt (n := 245) (t := 258) hx (dq tX7_pass 123 rfl) (by decide) rfl (zrI h_189l h_189u (by decide) (by decide)) ⟨by decide, by decide⟩ (fun c_190 => ?_) (fun c_190 => ?_)
                        · exact g_vret hx hr (dq tX7_pass 131 rfl) (fun u_ v_ huv_ => (((((f_177 u_ v_ (by omega)).trans (m_166 u_ v_ (by omega))).trans (m_16 u_ v_ (by omega))).trans (f_7 u_ v_ (by omega))).trans (m_3 u_ v_ (by omega))))
                        · refine g_aload_n (n := 246) hx 3 (dq tX7_pass 124 rfl) rfl rfl ?_
                          refine g_dup (n := 247) hx (dq tX7_pass 125 rfl) rfl rfl ?_
                          refine g_getI (n := 250) hx glX7_22 (sX7_3 (by decide)) (dq tX7_pass 126 rfl) rfl (fun h_191l h_191u => ?_)
                          refine g_iconst (n := 251) hx (dq tX7_pass 127 rfl) rfl ?_
                          refine g_iadd (n := 252) hx (dq tX7_pass 128 rfl) rfl ?_
                          refine g_putI (n := 255) hx plX7_22 (sX7_3 (by decide)) (dq tX7_pass 129 rfl) rfl (by omega) (by omega) (fun M_192 m_193e m_193 => ?_)
                          refine g_goto (n := 200) hx (dq tX7_pass 130 rfl) (by decide) ?_
                          exact ih_176 _ (by omega) M_192 (fun u_ v_ huv_ => ((m_193 u_ v_ (by omega)).trans (f_177 u_ v_ (by omega)))) rfl
              exact L_175 _ M_165 (fun _ _ _ => rfl) rfl
            · refine g_aload_n (n := 125) hx 3 (dq tX7_pass 62 rfl) rfl rfl ?_
              refine g_getI (n := 128) hx glX7_31 (sX7_4 (by decide)) (dq tX7_pass 63 rfl) rfl (fun h_194l h_194u => ?_)
              refine g_bipush (n := 130) hx (dq tX7_pass 64 rfl) rfl (by decide) ?_
              refine g_icmp_ne (n := 133) (t := 149) hx (dq tX7_pass 65 rfl) (by decide) rfl (zrI h_194l h_194u (by decide) (by decide)) ⟨by decide, by decide⟩ (fun c_195 => ?_) (fun c_195 => ?_)
              · refine g_aload_n (n := 150) hx 3 (dq tX7_pass 76 rfl) rfl rfl ?_
                refine g_getI (n := 153) hx glX7_31 (sX7_4 (by decide)) (dq tX7_pass 77 rfl) rfl (fun h_196l h_196u => ?_)
                refine g_bipush (n := 155) hx (dq tX7_pass 78 rfl) rfl (by decide) ?_
                refine g_icmp_lt (n := 158) (t := 176) hx (dq tX7_pass 79 rfl) (by decide) rfl (zrI h_196l h_196u (by decide) (by decide)) ⟨by decide, by decide⟩ (fun c_197 => ?_) (fun c_197 => ?_)
                · refine g_aload_n (n := 177) hx 3 (dq tX7_pass 89 rfl) rfl rfl ?_
                  refine g_getI (n := 180) hx glX7_31 (sX7_4 (by decide)) (dq tX7_pass 90 rfl) rfl (fun h_198l h_198u => ?_)
                  refine g_bipush (n := 182) hx (dq tX7_pass 91 rfl) rfl (by decide) ?_
                  refine g_icmp_lt (n := 185) (t := 200) hx (dq tX7_pass 92 rfl) (by decide) rfl (zrI h_198l h_198u (by decide) (by decide)) ⟨by decide, by decide⟩ (fun c_199 => ?_) (fun c_199 => ?_)
                  · have L_200 : ∀ (n_ : Nat), ((400 - M_165 7 3).toNat = n_) → G Γ x 4 (QV Γ x (qctX7_pass M)) M_165 200 [(3, vI (M_165 7 1)), (2, vI 256), (1, vI 256), (0, aR Γ 7)] [] := by
                      intro n_
                      induction n_ using Nat.strongRecOn with
                      | _ n_ ih_201 =>
                        intro hm_203
                        refine g_aload_n (n := 201) hx 3 (dq tX7_pass 101 rfl) rfl rfl ?_
                        refine g_getI (n := 204) hx glX7_22 (sX7_3 (by decide)) (dq tX7_pass 102 rfl) rfl (fun h_204l h_204u => ?_)
                        refine g_aload_n (n := 205) hx 3 (dq tX7_pass 103 rfl) rfl rfl ?_
                        refine g_getI (n := 208) hx glX7_15 (sX7_1 (by decide)) (dq tX7_pass 104 rfl) rfl (fun h_205l h_205u => ?_)
                        refine g_icmp_ge (n := 211) (t := 258) hx (dq tX7_pass 105 rfl) (by decide) rfl (zrI h_204l h_204u (by decide) (by decide)) (zrI h_205l h_205u (by decide) (by decide)) (fun c_206 => ?_) (fun c_206 => ?_)
                        · exact g_vret hx hr (dq tX7_pass 131 rfl) (fun u_ v_ huv_ => ((((m_166 u_ v_ (by omega)).trans (m_16 u_ v_ (by omega))).trans (f_7 u_ v_ (by omega))).trans (m_3 u_ v_ (by omega))))
                        · refine g_aload_n (n := 212) hx 3 (dq tX7_pass 106 rfl) rfl rfl ?_
                          refine g_getI (n := 215) hx glX7_22 (sX7_3 (by decide)) (dq tX7_pass 107 rfl) rfl (fun h_207l h_207u => ?_)
                          refine g_iload_n (n := 216) hx 0 (dq tX7_pass 108 rfl) rfl rfl ?_
                          refine g_icmp_ge (n := 219) (t := 258) hx (dq tX7_pass 109 rfl) (by decide) rfl (zrI h_207l h_207u (by decide) (by decide)) (zrI h_167l h_167u (by decide) (by decide)) (fun c_208 => ?_) (fun c_208 => ?_)
                          · exact g_vret hx hr (dq tX7_pass 131 rfl) (fun u_ v_ huv_ => ((((m_166 u_ v_ (by omega)).trans (m_16 u_ v_ (by omega))).trans (f_7 u_ v_ (by omega))).trans (m_3 u_ v_ (by omega))))
                          · refine g_aload_n (n := 220) hx 3 (dq tX7_pass 110 rfl) rfl rfl ?_
                            refine g_getR (n := 223) hx glX7_9 (sX7_0 (by decide)) (dq tX7_pass 111 rfl) rfl ?_
                            refine g_aload_n (n := 224) hx 3 (dq tX7_pass 112 rfl) rfl rfl ?_
                            refine g_getI (n := 227) hx glX7_22 (sX7_3 (by decide)) (dq tX7_pass 113 rfl) rfl (fun h_209l h_209u => ?_)
                            refine g_iald (n := 228) (q := (M_165 7 3).toNat) hx (aX7_0 (b := 7) (by decide)) (dq tX7_pass 114 rfl) rfl (by omega) (by omega) (by omega) rfl (fun h_210l h_210u => ?_)
                            refine g_iload_n (n := 229) hx 2 (dq tX7_pass 115 rfl) rfl rfl ?_
                            refine g_icmp_lt (n := 232) (t := 258) hx (dq tX7_pass 116 rfl) (by decide) rfl (zrI h_210l h_210u (by decide) (by decide)) ⟨by decide, by decide⟩ (fun c_211 => ?_) (fun c_211 => ?_)
                            · exact g_vret hx hr (dq tX7_pass 131 rfl) (fun u_ v_ huv_ => ((((m_166 u_ v_ (by omega)).trans (m_16 u_ v_ (by omega))).trans (f_7 u_ v_ (by omega))).trans (m_3 u_ v_ (by omega))))
                            · omega
                    exact L_200 _ rfl
                  · refine g_aload_n (n := 186) hx 3 (dq tX7_pass 93 rfl) rfl rfl ?_
                    refine g_getI (n := 189) hx glX7_31 (sX7_4 (by decide)) (dq tX7_pass 94 rfl) rfl (fun h_212l h_212u => ?_)
                    refine g_bipush (n := 191) hx (dq tX7_pass 95 rfl) rfl (by decide) ?_
                    refine g_icmp_gt (n := 194) (t := 200) hx (dq tX7_pass 96 rfl) (by decide) rfl (zrI h_212l h_212u (by decide) (by decide)) ⟨by decide, by decide⟩ (fun c_213 => ?_) (fun c_213 => ?_)
                    · have L_214 : ∀ (n_ : Nat), ((400 - M_165 7 3).toNat = n_) → G Γ x 4 (QV Γ x (qctX7_pass M)) M_165 200 [(3, vI (M_165 7 1)), (2, vI 256), (1, vI 256), (0, aR Γ 7)] [] := by
                        intro n_
                        induction n_ using Nat.strongRecOn with
                        | _ n_ ih_215 =>
                          intro hm_217
                          refine g_aload_n (n := 201) hx 3 (dq tX7_pass 101 rfl) rfl rfl ?_
                          refine g_getI (n := 204) hx glX7_22 (sX7_3 (by decide)) (dq tX7_pass 102 rfl) rfl (fun h_218l h_218u => ?_)
                          refine g_aload_n (n := 205) hx 3 (dq tX7_pass 103 rfl) rfl rfl ?_
                          refine g_getI (n := 208) hx glX7_15 (sX7_1 (by decide)) (dq tX7_pass 104 rfl) rfl (fun h_219l h_219u => ?_)
                          refine g_icmp_ge (n := 211) (t := 258) hx (dq tX7_pass 105 rfl) (by decide) rfl (zrI h_218l h_218u (by decide) (by decide)) (zrI h_219l h_219u (by decide) (by decide)) (fun c_220 => ?_) (fun c_220 => ?_)
                          · exact g_vret hx hr (dq tX7_pass 131 rfl) (fun u_ v_ huv_ => ((((m_166 u_ v_ (by omega)).trans (m_16 u_ v_ (by omega))).trans (f_7 u_ v_ (by omega))).trans (m_3 u_ v_ (by omega))))
                          · refine g_aload_n (n := 212) hx 3 (dq tX7_pass 106 rfl) rfl rfl ?_
                            refine g_getI (n := 215) hx glX7_22 (sX7_3 (by decide)) (dq tX7_pass 107 rfl) rfl (fun h_221l h_221u => ?_)
                            refine g_iload_n (n := 216) hx 0 (dq tX7_pass 108 rfl) rfl rfl ?_
                            refine g_icmp_ge (n := 219) (t := 258) hx (dq tX7_pass 109 rfl) (by decide) rfl (zrI h_221l h_221u (by decide) (by decide)) (zrI h_167l h_167u (by decide) (by decide)) (fun c_222 => ?_) (fun c_222 => ?_)
                            · exact g_vret hx hr (dq tX7_pass 131 rfl) (fun u_ v_ huv_ => ((((m_166 u_ v_ (by omega)).trans (m_16 u_ v_ (by omega))).trans (f_7 u_ v_ (by omega))).trans (m_3 u_ v_ (by omega))))
                            · refine g_aload_n (n := 220) hx 3 (dq tX7_pass 110 rfl) rfl rfl ?_
                              refine g_getR (n := 223) hx glX7_9 (sX7_0 (by decide)) (dq tX7_pass 111 rfl) rfl ?_
                              refine g_aload_n (n := 224) hx 3 (dq tX7_pass 112 rfl) rfl rfl ?_
                              refine g_getI (n := 227) hx glX7_22 (sX7_3 (by decide)) (dq tX7_pass 113 rfl) rfl (fun h_223l h_223u => ?_)
                              refine g_iald (n := 228) (q := (M_165 7 3).toNat) hx (aX7_0 (b := 7) (by decide)) (dq tX7_pass 114 rfl) rfl (by omega) (by omega) (by omega) rfl (fun h_224l h_224u => ?_)
                              refine g_iload_n (n := 229) hx 2 (dq tX7_pass 115 rfl) rfl rfl ?_
                              refine g_icmp_lt (n := 232) (t := 258) hx (dq tX7_pass 116 rfl) (by decide) rfl (zrI h_224l h_224u (by decide) (by decide)) ⟨by decide, by decide⟩ (fun c_225 => ?_) (fun c_225 => ?_)
                              · exact g_vret hx hr (dq tX7_pass 131 rfl) (fun u_ v_ huv_ => ((((m_166 u_ v_ (by omega)).trans (m_16 u_ v_ (by omega))).trans (f_7 u_ v_ (by omega))).trans (m_3 u_ v_ (by omega))))
                              · omega
                      exact L_214 _ rfl
                    · refine g_bipush (n := 196) hx (dq tX7_pass 97 rfl) rfl (by decide) ?_
                      refine g_istore_n (n := 197) (lv' := [(1, vI 48), (3, vI (M_165 7 1)), (2, vI 256), (0, aR Γ 7)]) hx (dq tX7_pass 98 rfl) (by decide) rfl rfl ?_
                      refine g_bipush (n := 199) hx (dq tX7_pass 99 rfl) rfl (by decide) ?_
                      refine g_istore_n (n := 200) (lv' := [(2, vI 57), (1, vI 48), (3, vI (M_165 7 1)), (0, aR Γ 7)]) hx (dq tX7_pass 100 rfl) (by decide) rfl rfl ?_
                      have L_227 : ∀ (n_ : Nat) (M_226 : zM), (∀ u_ v_, (u_ ≠ 7 ∨ v_ ≠ 3) → M_226 u_ v_ = M_165 u_ v_) → ((400 - M_226 7 3).toNat = n_) → G Γ x 4 (QV Γ x (qctX7_pass M)) M_226 200 [(2, vI 57), (1, vI 48), (3, vI (M_165 7 1)), (0, aR Γ 7)] [] := by
                        intro n_
                        induction n_ using Nat.strongRecOn with
                        | _ n_ ih_228 =>
                          intro M_226 f_229 hm_230
                          refine g_aload_n (n := 201) hx 3 (dq tX7_pass 101 rfl) rfl rfl ?_
                          refine g_getI (n := 204) hx glX7_22 (sX7_3 (by decide)) (dq tX7_pass 102 rfl) rfl (fun h_231l h_231u => ?_)
                          refine g_aload_n (n := 205) hx 3 (dq tX7_pass 103 rfl) rfl rfl ?_
                          refine g_getI (n := 208) hx glX7_15 (sX7_1 (by decide)) (dq tX7_pass 104 rfl) rfl (fun h_232l h_232u => ?_)
                          have e_233 : M_226 7 1 = M_165 7 1 := (f_229 7 1 (by omega))
                          refine g_icmp_ge (n := 211) (t := 258) hx (dq tX7_pass 105 rfl) (by decide) rfl (zrI h_231l h_231u (by decide) (by decide)) (zrI h_232l h_232u (by decide) (by decide)) (fun c_234 => ?_) (fun c_234 => ?_)
                          · exact g_vret hx hr (dq tX7_pass 131 rfl) (fun u_ v_ huv_ => (((((f_229 u_ v_ (by omega)).trans (m_166 u_ v_ (by omega))).trans (m_16 u_ v_ (by omega))).trans (f_7 u_ v_ (by omega))).trans (m_3 u_ v_ (by omega))))
                          · refine g_aload_n (n := 212) hx 3 (dq tX7_pass 106 rfl) rfl rfl ?_
                            refine g_getI (n := 215) hx glX7_22 (sX7_3 (by decide)) (dq tX7_pass 107 rfl) rfl (fun h_235l h_235u => ?_)
                            refine g_iload_n (n := 216) hx 2 (dq tX7_pass 108 rfl) rfl rfl ?_
                            refine g_icmp_ge (n := 219) (t := 258) hx (dq tX7_pass 109 rfl) (by decide) rfl (zrI h_235l h_235u (by decide) (by decide)) (zrI h_167l h_167u (by decide) (by decide)) (fun c_236 => ?_) (fun c_236 => ?_)
                            · exact g_vret hx hr (dq tX7_pass 131 rfl) (fun u_ v_ huv_ => (((((f_229 u_ v_ (by omega)).trans (m_166 u_ v_ (by omega))).trans (m_16 u_ v_ (by omega))).trans (f_7 u_ v_ (by omega))).trans (m_3 u_ v_ (by omega))))
                            · refine g_aload_n (n := 220) hx 3 (dq tX7_pass 110 rfl) rfl rfl ?_
                              refine g_getR (n := 223) hx glX7_9 (sX7_0 (by decide)) (dq tX7_pass 111 rfl) rfl ?_
                              refine g_aload_n (n := 224) hx 3 (dq tX7_pass 112 rfl) rfl rfl ?_
                              refine g_getI (n := 227) hx glX7_22 (sX7_3 (by decide)) (dq tX7_pass 113 rfl) rfl (fun h_237l h_237u => ?_)
                              refine g_iald (n := 228) (q := (M_226 7 3).toNat) hx (aX7_0 (b := 7) (by decide)) (dq tX7_pass 114 rfl) rfl (by omega) (by omega) (by omega) rfl (fun h_238l h_238u => ?_)
                              refine g_iload_n (n := 229) hx 1 (dq tX7_pass 115 rfl) rfl rfl ?_
                              refine g_icmp_lt (n := 232) (t := 258) hx (dq tX7_pass 116 rfl) (by decide) rfl (zrI h_238l h_238u (by decide) (by decide)) ⟨by decide, by decide⟩ (fun c_239 => ?_) (fun c_239 => ?_)
                              · exact g_vret hx hr (dq tX7_pass 131 rfl) (fun u_ v_ huv_ => (((((f_229 u_ v_ (by omega)).trans (m_166 u_ v_ (by omega))).trans (m_16 u_ v_ (by omega))).trans (f_7 u_ v_ (by omega))).trans (m_3 u_ v_ (by omega))))
                              · refine g_aload_n (n := 233) hx 3 (dq tX7_pass 117 rfl) rfl rfl ?_
                                refine g_getR (n := 236) hx glX7_9 (sX7_0 (by decide)) (dq tX7_pass 118 rfl) rfl ?_
                                refine g_aload_n (n := 237) hx 3 (dq tX7_pass 119 rfl) rfl rfl ?_
                                refine g_getI (n := 240) hx glX7_22 (sX7_3 (by decide)) (dq tX7_pass 120 rfl) rfl (fun h_240l h_240u => ?_)
                                refine g_iald (n := 241) (q := (M_226 7 3).toNat) hx (aX7_0 (b := 7) (by decide)) (dq tX7_pass 121 rfl) rfl (by omega) (by omega) (by omega) rfl (fun h_241l h_241u => ?_)
                                refine g_iload_n (n := 242) hx 0 (dq tX7_pass 122 rfl) rfl rfl ?_
                                refine g_icmp_gt (n := 245) (t := 258) hx (dq tX7_pass 123 rfl) (by decide) rfl (zrI h_241l h_241u (by decide) (by decide)) ⟨by decide, by decide⟩ (fun c_242 => ?_) (fun c_242 => ?_)
                                · exact g_vret hx hr (dq tX7_pass 131 rfl) (fun u_ v_ huv_ => (((((f_229 u_ v_ (by omega)).trans (m_166 u_ v_ (by omega))).trans (m_16 u_ v_ (by omega))).trans (f_7 u_ v_ (by omega))).trans (m_3 u_ v_ (by omega))))
                                · refine g_aload_n (n := 246) hx 3 (dq tX7_pass 124 rfl) rfl rfl ?_
                                  refine g_dup (n := 247) hx (dq tX7_pass 125 rfl) rfl rfl ?_
                                  refine g_getI (n := 250) hx glX7_22 (sX7_3 (by decide)) (dq tX7_pass 126 rfl) rfl (fun h_243l h_243u => ?_)
                                  refine g_iconst (n := 251) hx (dq tX7_pass 127 rfl) rfl ?_
                                  refine g_iadd (n := 252) hx (dq tX7_pass 128 rfl) rfl ?_
                                  refine g_putI (n := 255) hx plX7_22 (sX7_3 (by decide)) (dq tX7_pass 129 rfl) rfl (by omega) (by omega) (fun M_244 m_245e m_245 => ?_)
                                  refine g_goto (n := 200) hx (dq tX7_pass 130 rfl) (by decide) ?_
                                  exact ih_228 _ (by omega) M_244 (fun u_ v_ huv_ => ((m_245 u_ v_ (by omega)).trans (f_229 u_ v_ (by omega)))) rfl
                      exact L_227 _ M_165 (fun _ _ _ => rfl) rfl
                · refine g_aload_n (n := 159) hx 3 (dq tX7_pass 80 rfl) rfl rfl ?_
                  refine g_getI (n := 162) hx glX7_31 (sX7_4 (by decide)) (dq tX7_pass 81 rfl) rfl (fun h_246l h_246u => ?_)
                  refine g_bipush (n := 164) hx (dq tX7_pass 82 rfl) rfl (by decide) ?_
                  refine g_icmp_gt (n := 167) (t := 176) hx (dq tX7_pass 83 rfl) (by decide) rfl (zrI h_246l h_246u (by decide) (by decide)) ⟨by decide, by decide⟩ (fun c_247 => ?_) (fun c_247 => ?_)
                  · refine g_aload_n (n := 177) hx 3 (dq tX7_pass 89 rfl) rfl rfl ?_
                    refine g_getI (n := 180) hx glX7_31 (sX7_4 (by decide)) (dq tX7_pass 90 rfl) rfl (fun h_248l h_248u => ?_)
                    refine g_bipush (n := 182) hx (dq tX7_pass 91 rfl) rfl (by decide) ?_
                    refine g_icmp_lt (n := 185) (t := 200) hx (dq tX7_pass 92 rfl) (by decide) rfl (zrI h_248l h_248u (by decide) (by decide)) ⟨by decide, by decide⟩ (fun c_249 => ?_) (fun c_249 => ?_)
                    · omega
                    · refine g_aload_n (n := 186) hx 3 (dq tX7_pass 93 rfl) rfl rfl ?_
                      refine g_getI (n := 189) hx glX7_31 (sX7_4 (by decide)) (dq tX7_pass 94 rfl) rfl (fun h_250l h_250u => ?_)
                      refine g_bipush (n := 191) hx (dq tX7_pass 95 rfl) rfl (by decide) ?_
                      refine g_icmp_gt (n := 194) (t := 200) hx (dq tX7_pass 96 rfl) (by decide) rfl (zrI h_250l h_250u (by decide) (by decide)) ⟨by decide, by decide⟩ (fun c_251 => ?_) (fun c_251 => ?_)
                      · have L_252 : ∀ (n_ : Nat), ((400 - M_165 7 3).toNat = n_) → G Γ x 4 (QV Γ x (qctX7_pass M)) M_165 200 [(3, vI (M_165 7 1)), (2, vI 256), (1, vI 256), (0, aR Γ 7)] [] := by
                          intro n_
                          induction n_ using Nat.strongRecOn with
                          | _ n_ ih_253 =>
                            intro hm_255
                            refine g_aload_n (n := 201) hx 3 (dq tX7_pass 101 rfl) rfl rfl ?_
                            refine g_getI (n := 204) hx glX7_22 (sX7_3 (by decide)) (dq tX7_pass 102 rfl) rfl (fun h_256l h_256u => ?_)
                            refine g_aload_n (n := 205) hx 3 (dq tX7_pass 103 rfl) rfl rfl ?_
                            refine g_getI (n := 208) hx glX7_15 (sX7_1 (by decide)) (dq tX7_pass 104 rfl) rfl (fun h_257l h_257u => ?_)
                            refine g_icmp_ge (n := 211) (t := 258) hx (dq tX7_pass 105 rfl) (by decide) rfl (zrI h_256l h_256u (by decide) (by decide)) (zrI h_257l h_257u (by decide) (by decide)) (fun c_258 => ?_) (fun c_258 => ?_)
                            · exact g_vret hx hr (dq tX7_pass 131 rfl) (fun u_ v_ huv_ => ((((m_166 u_ v_ (by omega)).trans (m_16 u_ v_ (by omega))).trans (f_7 u_ v_ (by omega))).trans (m_3 u_ v_ (by omega))))
                            · refine g_aload_n (n := 212) hx 3 (dq tX7_pass 106 rfl) rfl rfl ?_
                              refine g_getI (n := 215) hx glX7_22 (sX7_3 (by decide)) (dq tX7_pass 107 rfl) rfl (fun h_259l h_259u => ?_)
                              refine g_iload_n (n := 216) hx 0 (dq tX7_pass 108 rfl) rfl rfl ?_
                              refine g_icmp_ge (n := 219) (t := 258) hx (dq tX7_pass 109 rfl) (by decide) rfl (zrI h_259l h_259u (by decide) (by decide)) (zrI h_167l h_167u (by decide) (by decide)) (fun c_260 => ?_) (fun c_260 => ?_)
                              · exact g_vret hx hr (dq tX7_pass 131 rfl) (fun u_ v_ huv_ => ((((m_166 u_ v_ (by omega)).trans (m_16 u_ v_ (by omega))).trans (f_7 u_ v_ (by omega))).trans (m_3 u_ v_ (by omega))))
                              · refine g_aload_n (n := 220) hx 3 (dq tX7_pass 110 rfl) rfl rfl ?_
                                refine g_getR (n := 223) hx glX7_9 (sX7_0 (by decide)) (dq tX7_pass 111 rfl) rfl ?_
                                refine g_aload_n (n := 224) hx 3 (dq tX7_pass 112 rfl) rfl rfl ?_
                                refine g_getI (n := 227) hx glX7_22 (sX7_3 (by decide)) (dq tX7_pass 113 rfl) rfl (fun h_261l h_261u => ?_)
                                refine g_iald (n := 228) (q := (M_165 7 3).toNat) hx (aX7_0 (b := 7) (by decide)) (dq tX7_pass 114 rfl) rfl (by omega) (by omega) (by omega) rfl (fun h_262l h_262u => ?_)
                                refine g_iload_n (n := 229) hx 2 (dq tX7_pass 115 rfl) rfl rfl ?_
                                refine g_icmp_lt (n := 232) (t := 258) hx (dq tX7_pass 116 rfl) (by decide) rfl (zrI h_262l h_262u (by decide) (by decide)) ⟨by decide, by decide⟩ (fun c_263 => ?_) (fun c_263 => ?_)
                                · exact g_vret hx hr (dq tX7_pass 131 rfl) (fun u_ v_ huv_ => ((((m_166 u_ v_ (by omega)).trans (m_16 u_ v_ (by omega))).trans (f_7 u_ v_ (by omega))).trans (m_3 u_ v_ (by omega))))
                                · omega
                        exact L_252 _ rfl
                      · omega
                  · refine g_bipush (n := 169) hx (dq tX7_pass 84 rfl) rfl (by decide) ?_
                    refine g_istore_n (n := 170) (lv' := [(1, vI 97), (3, vI (M_165 7 1)), (2, vI 256), (0, aR Γ 7)]) hx (dq tX7_pass 85 rfl) (by decide) rfl rfl ?_
                    refine g_bipush (n := 172) hx (dq tX7_pass 86 rfl) rfl (by decide) ?_
                    refine g_istore_n (n := 173) (lv' := [(2, vI 122), (1, vI 97), (3, vI (M_165 7 1)), (0, aR Γ 7)]) hx (dq tX7_pass 87 rfl) (by decide) rfl rfl ?_
                    refine g_goto (n := 200) hx (dq tX7_pass 88 rfl) (by decide) ?_
                    have L_265 : ∀ (n_ : Nat) (M_264 : zM), (∀ u_ v_, (u_ ≠ 7 ∨ v_ ≠ 3) → M_264 u_ v_ = M_165 u_ v_) → ((400 - M_264 7 3).toNat = n_) → G Γ x 4 (QV Γ x (qctX7_pass M)) M_264 200 [(2, vI 122), (1, vI 97), (3, vI (M_165 7 1)), (0, aR Γ 7)] [] := by
                      intro n_
                      induction n_ using Nat.strongRecOn with
                      | _ n_ ih_266 =>
                        intro M_264 f_267 hm_268
                        refine g_aload_n (n := 201) hx 3 (dq tX7_pass 101 rfl) rfl rfl ?_
                        refine g_getI (n := 204) hx glX7_22 (sX7_3 (by decide)) (dq tX7_pass 102 rfl) rfl (fun h_269l h_269u => ?_)
                        refine g_aload_n (n := 205) hx 3 (dq tX7_pass 103 rfl) rfl rfl ?_
                        refine g_getI (n := 208) hx glX7_15 (sX7_1 (by decide)) (dq tX7_pass 104 rfl) rfl (fun h_270l h_270u => ?_)
                        have e_271 : M_264 7 1 = M_165 7 1 := (f_267 7 1 (by omega))
                        refine g_icmp_ge (n := 211) (t := 258) hx (dq tX7_pass 105 rfl) (by decide) rfl (zrI h_269l h_269u (by decide) (by decide)) (zrI h_270l h_270u (by decide) (by decide)) (fun c_272 => ?_) (fun c_272 => ?_)
                        · exact g_vret hx hr (dq tX7_pass 131 rfl) (fun u_ v_ huv_ => (((((f_267 u_ v_ (by omega)).trans (m_166 u_ v_ (by omega))).trans (m_16 u_ v_ (by omega))).trans (f_7 u_ v_ (by omega))).trans (m_3 u_ v_ (by omega))))
                        · refine g_aload_n (n := 212) hx 3 (dq tX7_pass 106 rfl) rfl rfl ?_
                          refine g_getI (n := 215) hx glX7_22 (sX7_3 (by decide)) (dq tX7_pass 107 rfl) rfl (fun h_273l h_273u => ?_)
                          refine g_iload_n (n := 216) hx 2 (dq tX7_pass 108 rfl) rfl rfl ?_
                          refine g_icmp_ge (n := 219) (t := 258) hx (dq tX7_pass 109 rfl) (by decide) rfl (zrI h_273l h_273u (by decide) (by decide)) (zrI h_167l h_167u (by decide) (by decide)) (fun c_274 => ?_) (fun c_274 => ?_)
                          · exact g_vret hx hr (dq tX7_pass 131 rfl) (fun u_ v_ huv_ => (((((f_267 u_ v_ (by omega)).trans (m_166 u_ v_ (by omega))).trans (m_16 u_ v_ (by omega))).trans (f_7 u_ v_ (by omega))).trans (m_3 u_ v_ (by omega))))
                          · refine g_aload_n (n := 220) hx 3 (dq tX7_pass 110 rfl) rfl rfl ?_
                            refine g_getR (n := 223) hx glX7_9 (sX7_0 (by decide)) (dq tX7_pass 111 rfl) rfl ?_
                            refine g_aload_n (n := 224) hx 3 (dq tX7_pass 112 rfl) rfl rfl ?_
                            refine g_getI (n := 227) hx glX7_22 (sX7_3 (by decide)) (dq tX7_pass 113 rfl) rfl (fun h_275l h_275u => ?_)
                            refine g_iald (n := 228) (q := (M_264 7 3).toNat) hx (aX7_0 (b := 7) (by decide)) (dq tX7_pass 114 rfl) rfl (by omega) (by omega) (by omega) rfl (fun h_276l h_276u => ?_)
                            refine g_iload_n (n := 229) hx 1 (dq tX7_pass 115 rfl) rfl rfl ?_
                            refine g_icmp_lt (n := 232) (t := 258) hx (dq tX7_pass 116 rfl) (by decide) rfl (zrI h_276l h_276u (by decide) (by decide)) ⟨by decide, by decide⟩ (fun c_277 => ?_) (fun c_277 => ?_)
                            · exact g_vret hx hr (dq tX7_pass 131 rfl) (fun u_ v_ huv_ => (((((f_267 u_ v_ (by omega)).trans (m_166 u_ v_ (by omega))).trans (m_16 u_ v_ (by omega))).trans (f_7 u_ v_ (by omega))).trans (m_3 u_ v_ (by omega))))
                            · refine g_aload_n (n := 233) hx 3 (dq tX7_pass 117 rfl) rfl rfl ?_
                              refine g_getR (n := 236) hx glX7_9 (sX7_0 (by decide)) (dq tX7_pass 118 rfl) rfl ?_
                              refine g_aload_n (n := 237) hx 3 (dq tX7_pass 119 rfl) rfl rfl ?_
                              refine g_getI (n := 240) hx glX7_22 (sX7_3 (by decide)) (dq tX7_pass 120 rfl) rfl (fun h_278l h_278u => ?_)
                              refine g_iald (n := 241) (q := (M_264 7 3).toNat) hx (aX7_0 (b := 7) (by decide)) (dq tX7_pass 121 rfl) rfl (by omega) (by omega) (by omega) rfl (fun h_279l h_279u => ?_)
                              refine g_iload_n (n := 242) hx 0 (dq tX7_pass 122 rfl) rfl rfl ?_
                              refine g_icmp_gt (n := 245) (t := 258) hx (dq tX7_pass 123 rfl) (by decide) rfl (zrI h_279l h_279u (by decide) (by decide)) ⟨by decide, by decide⟩ (fun c_280 => ?_) (fun c_280 => ?_)
                              · exact g_vret hx hr (dq tX7_pass 131 rfl) (fun u_ v_ huv_ => (((((f_267 u_ v_ (by omega)).trans (m_166 u_ v_ (by omega))).trans (m_16 u_ v_ (by omega))).trans (f_7 u_ v_ (by omega))).trans (m_3 u_ v_ (by omega))))
                              · refine g_aload_n (n := 246) hx 3 (dq tX7_pass 124 rfl) rfl rfl ?_
                                refine g_dup (n := 247) hx (dq tX7_pass 125 rfl) rfl rfl ?_
                                refine g_getI (n := 250) hx glX7_22 (sX7_3 (by decide)) (dq tX7_pass 126 rfl) rfl (fun h_281l h_281u => ?_)
                                refine g_iconst (n := 251) hx (dq tX7_pass 127 rfl) rfl ?_
                                refine g_iadd (n := 252) hx (dq tX7_pass 128 rfl) rfl ?_
                                refine g_putI (n := 255) hx plX7_22 (sX7_3 (by decide)) (dq tX7_pass 129 rfl) rfl (by omega) (by omega) (fun M_282 m_283e m_283 => ?_)
                                refine g_goto (n := 200) hx (dq tX7_pass 130 rfl) (by decide) ?_
                                exact ih_266 _ (by omega) M_282 (fun u_ v_ huv_ => ((m_283 u_ v_ (by omega)).trans (f_267 u_ v_ (by omega)))) rfl
                    exact L_265 _ M_165 (fun _ _ _ => rfl) rfl
              · refine g_bipush (n := 135) hx (dq tX7_pass 66 rfl) rfl (by decide) ?_
                refine g_istore_n (n := 136) (lv' := [(1, vI 61), (3, vI (M_165 7 1)), (2, vI 256), (0, aR Γ 7)]) hx (dq tX7_pass 67 rfl) (by decide) rfl rfl ?_
                refine g_bipush (n := 138) hx (dq tX7_pass 68 rfl) rfl (by decide) ?_
                refine g_istore_n (n := 139) (lv' := [(2, vI 61), (1, vI 61), (3, vI (M_165 7 1)), (0, aR Γ 7)]) hx (dq tX7_pass 69 rfl) (by decide) rfl rfl ?_
                refine g_aload_n (n := 140) hx 3 (dq tX7_pass 70 rfl) rfl rfl ?_
                refine g_getI (n := 143) hx glX7_28 (sX7_2 (by decide)) (dq tX7_pass 71 rfl) rfl (fun h_284l h_284u => ?_)
                have e_285 : M_165 7 2 = M_15 7 2 := (m_166 7 2 (by omega))
                refine g_iconst (n := 144) hx (dq tX7_pass 72 rfl) rfl ?_
                refine g_iadd (n := 145) hx (dq tX7_pass 73 rfl) rfl ?_
                refine g_istore_n (n := 146) (lv' := [(3, vI ((M_165 7 2) + 2)), (2, vI 61), (1, vI 61), (0, aR Γ 7)]) hx (dq tX7_pass 74 rfl) (by decide) rfl rfl ?_
                refine g_goto (n := 200) hx (dq tX7_pass 75 rfl) (by decide) ?_
                have L_287 : ∀ (n_ : Nat) (M_286 : zM), (∀ u_ v_, (u_ ≠ 7 ∨ v_ ≠ 3) → M_286 u_ v_ = M_165 u_ v_) → ((400 - M_286 7 3).toNat = n_) → G Γ x 4 (QV Γ x (qctX7_pass M)) M_286 200 [(3, vI ((M_165 7 2) + 2)), (2, vI 61), (1, vI 61), (0, aR Γ 7)] [] := by
                  intro n_
                  induction n_ using Nat.strongRecOn with
                  | _ n_ ih_288 =>
                    intro M_286 f_289 hm_290
                    refine g_aload_n (n := 201) hx 3 (dq tX7_pass 101 rfl) rfl rfl ?_
                    refine g_getI (n := 204) hx glX7_22 (sX7_3 (by decide)) (dq tX7_pass 102 rfl) rfl (fun h_291l h_291u => ?_)
                    refine g_aload_n (n := 205) hx 3 (dq tX7_pass 103 rfl) rfl rfl ?_
                    refine g_getI (n := 208) hx glX7_15 (sX7_1 (by decide)) (dq tX7_pass 104 rfl) rfl (fun h_292l h_292u => ?_)
                    have e_293 : M_286 7 1 = M_165 7 1 := (f_289 7 1 (by omega))
                    refine g_icmp_ge (n := 211) (t := 258) hx (dq tX7_pass 105 rfl) (by decide) rfl (zrI h_291l h_291u (by decide) (by decide)) (zrI h_292l h_292u (by decide) (by decide)) (fun c_294 => ?_) (fun c_294 => ?_)
                    · exact g_vret hx hr (dq tX7_pass 131 rfl) (fun u_ v_ huv_ => (((((f_289 u_ v_ (by omega)).trans (m_166 u_ v_ (by omega))).trans (m_16 u_ v_ (by omega))).trans (f_7 u_ v_ (by omega))).trans (m_3 u_ v_ (by omega))))
                    · refine g_aload_n (n := 212) hx 3 (dq tX7_pass 106 rfl) rfl rfl ?_
                      refine g_getI (n := 215) hx glX7_22 (sX7_3 (by decide)) (dq tX7_pass 107 rfl) rfl (fun h_295l h_295u => ?_)
                      refine g_iload_n (n := 216) hx 0 (dq tX7_pass 108 rfl) rfl rfl ?_
                      refine g_icmp_ge (n := 219) (t := 258) hx (dq tX7_pass 109 rfl) (by decide) rfl (zrI h_295l h_295u (by decide) (by decide)) ⟨by omega, by omega⟩ (fun c_296 => ?_) (fun c_296 => ?_)
                      · exact g_vret hx hr (dq tX7_pass 131 rfl) (fun u_ v_ huv_ => (((((f_289 u_ v_ (by omega)).trans (m_166 u_ v_ (by omega))).trans (m_16 u_ v_ (by omega))).trans (f_7 u_ v_ (by omega))).trans (m_3 u_ v_ (by omega))))
                      · refine g_aload_n (n := 220) hx 3 (dq tX7_pass 110 rfl) rfl rfl ?_
                        refine g_getR (n := 223) hx glX7_9 (sX7_0 (by decide)) (dq tX7_pass 111 rfl) rfl ?_
                        refine g_aload_n (n := 224) hx 3 (dq tX7_pass 112 rfl) rfl rfl ?_
                        refine g_getI (n := 227) hx glX7_22 (sX7_3 (by decide)) (dq tX7_pass 113 rfl) rfl (fun h_297l h_297u => ?_)
                        refine g_iald (n := 228) (q := (M_286 7 3).toNat) hx (aX7_0 (b := 7) (by decide)) (dq tX7_pass 114 rfl) rfl (by omega) (by omega) (by omega) rfl (fun h_298l h_298u => ?_)
                        refine g_iload_n (n := 229) hx 2 (dq tX7_pass 115 rfl) rfl rfl ?_
                        refine g_icmp_lt (n := 232) (t := 258) hx (dq tX7_pass 116 rfl) (by decide) rfl (zrI h_298l h_298u (by decide) (by decide)) ⟨by decide, by decide⟩ (fun c_299 => ?_) (fun c_299 => ?_)
                        · exact g_vret hx hr (dq tX7_pass 131 rfl) (fun u_ v_ huv_ => (((((f_289 u_ v_ (by omega)).trans (m_166 u_ v_ (by omega))).trans (m_16 u_ v_ (by omega))).trans (f_7 u_ v_ (by omega))).trans (m_3 u_ v_ (by omega))))
                        · refine g_aload_n (n := 233) hx 3 (dq tX7_pass 117 rfl) rfl rfl ?_
                          refine g_getR (n := 236) hx glX7_9 (sX7_0 (by decide)) (dq tX7_pass 118 rfl) rfl ?_
                          refine g_aload_n (n := 237) hx 3 (dq tX7_pass 119 rfl) rfl rfl ?_
                          refine g_getI (n := 240) hx glX7_22 (sX7_3 (by decide)) (dq tX7_pass 120 rfl) rfl (fun h_300l h_300u => ?_)
                          refine g_iald (n := 241) (q := (M_286 7 3).toNat) hx (aX7_0 (b := 7) (by decide)) (dq tX7_pass 121 rfl) rfl (by omega) (by omega) (by omega) rfl (fun h_301l h_301u => ?_)
                          refine g_iload_n (n := 242) hx 1 (dq tX7_pass 122 rfl) rfl rfl ?_
                          refine g_icmp_gt (n := 245) (t := 258) hx (dq tX7_pass 123 rfl) (by decide) rfl (zrI h_301l h_301u (by decide) (by decide)) ⟨by decide, by decide⟩ (fun c_302 => ?_) (fun c_302 => ?_)
                          · exact g_vret hx hr (dq tX7_pass 131 rfl) (fun u_ v_ huv_ => (((((f_289 u_ v_ (by omega)).trans (m_166 u_ v_ (by omega))).trans (m_16 u_ v_ (by omega))).trans (f_7 u_ v_ (by omega))).trans (m_3 u_ v_ (by omega))))
                          · refine g_aload_n (n := 246) hx 3 (dq tX7_pass 124 rfl) rfl rfl ?_
                            refine g_dup (n := 247) hx (dq tX7_pass 125 rfl) rfl rfl ?_
                            refine g_getI (n := 250) hx glX7_22 (sX7_3 (by decide)) (dq tX7_pass 126 rfl) rfl (fun h_303l h_303u => ?_)
                            refine g_iconst (n := 251) hx (dq tX7_pass 127 rfl) rfl ?_
                            refine g_iadd (n := 252) hx (dq tX7_pass 128 rfl) rfl ?_
                            refine g_putI (n := 255) hx plX7_22 (sX7_3 (by decide)) (dq tX7_pass 129 rfl) rfl (by omega) (by omega) (fun M_304 m_305e m_305 => ?_)
                            refine g_goto (n := 200) hx (dq tX7_pass 130 rfl) (by decide) ?_
                            exact ih_288 _ (by omega) M_304 (fun u_ v_ huv_ => ((m_305 u_ v_ (by omega)).trans (f_289 u_ v_ (by omega)))) rfl
                exact L_287 _ M_165 (fun _ _ _ => rfl) rfl
        · refine g_aload_n (n := 59) hx 0 (dq tX7_pass 29 rfl) rfl rfl ?_
          refine g_getR (n := 62) hx glX7_9 (sX7_0 (by decide)) (dq tX7_pass 30 rfl) rfl ?_
          refine g_aload_n (n := 63) hx 0 (dq tX7_pass 31 rfl) rfl rfl ?_
          refine g_getI (n := 66) hx glX7_28 (sX7_2 (by decide)) (dq tX7_pass 32 rfl) rfl (fun h_306l h_306u => ?_)
          refine g_iald (n := 67) (q := (M_4 7 2).toNat) hx (aX7_0 (b := 7) (by decide)) (dq tX7_pass 33 rfl) rfl (by omega) (by omega) (by omega) rfl (fun h_307l h_307u => ?_)
          refine g_goto (n := 71) hx (dq tX7_pass 34 rfl) (by decide) ?_
          refine g_putI (n := 74) hx plX7_31 (sX7_4 (by decide)) (dq tX7_pass 36 rfl) rfl (by omega) (by omega) (fun M_308 m_309e m_309 => ?_)
          refine g_aload_n (n := 75) hx 0 (dq tX7_pass 37 rfl) rfl rfl ?_
          refine g_aload_n (n := 76) hx 0 (dq tX7_pass 38 rfl) rfl rfl ?_
          refine g_getI (n := 79) hx glX7_28 (sX7_2 (by decide)) (dq tX7_pass 39 rfl) rfl (fun h_310l h_310u => ?_)
          have e_311 : M_308 7 2 = M_4 7 2 := (m_309 7 2 (by omega))
          refine g_aload_n (n := 80) hx 0 (dq tX7_pass 40 rfl) rfl rfl ?_
          refine g_getI (n := 83) hx glX7_15 (sX7_1 (by decide)) (dq tX7_pass 41 rfl) rfl (fun h_312l h_312u => ?_)
          have e_313 : M_308 7 1 = M_4 7 1 := (m_309 7 1 (by omega))
          refine g_icmp_ge (n := 86) (t := 95) hx (dq tX7_pass 42 rfl) (by decide) rfl (zrI h_310l h_310u (by decide) (by decide)) (zrI h_312l h_312u (by decide) (by decide)) (fun c_314 => ?_) (fun c_314 => ?_)
          · refine g_aload_n (n := 96) hx 0 (dq tX7_pass 48 rfl) rfl rfl ?_
            refine g_getI (n := 99) hx glX7_15 (sX7_1 (by decide)) (dq tX7_pass 49 rfl) rfl (fun h_315l h_315u => ?_)
            refine g_putI (n := 102) hx plX7_22 (sX7_3 (by decide)) (dq tX7_pass 50 rfl) rfl (by omega) (by omega) (fun M_316 m_317e m_317 => ?_)
            refine g_sipush (n := 105) hx (dq tX7_pass 51 rfl) rfl (by decide) ?_
            refine g_istore_n (n := 106) (lv' := [(1, vI 256), (0, aR Γ 7)]) hx (dq tX7_pass 52 rfl) (by decide) rfl rfl ?_
            refine g_sipush (n := 109) hx (dq tX7_pass 53 rfl) rfl (by decide) ?_
            refine g_istore_n (n := 110) (lv' := [(2, vI 256), (1, vI 256), (0, aR Γ 7)]) hx (dq tX7_pass 54 rfl) (by decide) rfl rfl ?_
            refine g_aload_n (n := 111) hx 2 (dq tX7_pass 55 rfl) rfl rfl ?_
            refine g_getI (n := 114) hx glX7_15 (sX7_1 (by decide)) (dq tX7_pass 56 rfl) rfl (fun h_318l h_318u => ?_)
            have e_319 : M_316 7 1 = M_308 7 1 := (m_317 7 1 (by omega))
            refine g_istore_n (n := 115) (lv' := [(3, vI (M_316 7 1)), (2, vI 256), (1, vI 256), (0, aR Γ 7)]) hx (dq tX7_pass 57 rfl) (by decide) rfl rfl ?_
            refine g_aload_n (n := 116) hx 3 (dq tX7_pass 58 rfl) rfl rfl ?_
            refine g_getI (n := 119) hx glX7_31 (sX7_4 (by decide)) (dq tX7_pass 59 rfl) rfl (fun h_320l h_320u => ?_)
            have e_321 : M_316 7 4 = M_308 7 4 := (m_317 7 4 (by omega))
            refine g_bipush (n := 121) hx (dq tX7_pass 60 rfl) rfl (by decide) ?_
            refine g_icmp_eq (n := 124) (t := 133) hx (dq tX7_pass 61 rfl) (by decide) rfl (zrI h_320l h_320u (by decide) (by decide)) ⟨by decide, by decide⟩ (fun c_322 => ?_) (fun c_322 => ?_)
            · refine g_bipush (n := 135) hx (dq tX7_pass 66 rfl) rfl (by decide) ?_
              refine g_istore_n (n := 136) (lv' := [(1, vI 61), (3, vI (M_316 7 1)), (2, vI 256), (0, aR Γ 7)]) hx (dq tX7_pass 67 rfl) (by decide) rfl rfl ?_
              refine g_bipush (n := 138) hx (dq tX7_pass 68 rfl) rfl (by decide) ?_
              refine g_istore_n (n := 139) (lv' := [(2, vI 61), (1, vI 61), (3, vI (M_316 7 1)), (0, aR Γ 7)]) hx (dq tX7_pass 69 rfl) (by decide) rfl rfl ?_
              refine g_aload_n (n := 140) hx 3 (dq tX7_pass 70 rfl) rfl rfl ?_
              refine g_getI (n := 143) hx glX7_28 (sX7_2 (by decide)) (dq tX7_pass 71 rfl) rfl (fun h_323l h_323u => ?_)
              have e_324 : M_316 7 2 = M_308 7 2 := (m_317 7 2 (by omega))
              refine g_iconst (n := 144) hx (dq tX7_pass 72 rfl) rfl ?_
              refine g_iadd (n := 145) hx (dq tX7_pass 73 rfl) rfl ?_
              refine g_istore_n (n := 146) (lv' := [(3, vI ((M_316 7 2) + 2)), (2, vI 61), (1, vI 61), (0, aR Γ 7)]) hx (dq tX7_pass 74 rfl) (by decide) rfl rfl ?_
              refine g_goto (n := 200) hx (dq tX7_pass 75 rfl) (by decide) ?_
              have L_326 : ∀ (n_ : Nat) (M_325 : zM), (∀ u_ v_, (u_ ≠ 7 ∨ v_ ≠ 3) → M_325 u_ v_ = M_316 u_ v_) → ((400 - M_325 7 3).toNat = n_) → G Γ x 4 (QV Γ x (qctX7_pass M)) M_325 200 [(3, vI ((M_316 7 2) + 2)), (2, vI 61), (1, vI 61), (0, aR Γ 7)] [] := by
                intro n_
                induction n_ using Nat.strongRecOn with
                | _ n_ ih_327 =>
                  intro M_325 f_328 hm_329
                  refine g_aload_n (n := 201) hx 3 (dq tX7_pass 101 rfl) rfl rfl ?_
                  refine g_getI (n := 204) hx glX7_22 (sX7_3 (by decide)) (dq tX7_pass 102 rfl) rfl (fun h_330l h_330u => ?_)
                  refine g_aload_n (n := 205) hx 3 (dq tX7_pass 103 rfl) rfl rfl ?_
                  refine g_getI (n := 208) hx glX7_15 (sX7_1 (by decide)) (dq tX7_pass 104 rfl) rfl (fun h_331l h_331u => ?_)
                  have e_332 : M_325 7 1 = M_316 7 1 := (f_328 7 1 (by omega))
                  refine g_icmp_ge (n := 211) (t := 258) hx (dq tX7_pass 105 rfl) (by decide) rfl (zrI h_330l h_330u (by decide) (by decide)) (zrI h_331l h_331u (by decide) (by decide)) (fun c_333 => ?_) (fun c_333 => ?_)
                  · exact g_vret hx hr (dq tX7_pass 131 rfl) (fun u_ v_ huv_ => (((((f_328 u_ v_ (by omega)).trans (m_317 u_ v_ (by omega))).trans (m_309 u_ v_ (by omega))).trans (f_7 u_ v_ (by omega))).trans (m_3 u_ v_ (by omega))))
                  · refine g_aload_n (n := 212) hx 3 (dq tX7_pass 106 rfl) rfl rfl ?_
                    refine g_getI (n := 215) hx glX7_22 (sX7_3 (by decide)) (dq tX7_pass 107 rfl) rfl (fun h_334l h_334u => ?_)
                    refine g_iload_n (n := 216) hx 0 (dq tX7_pass 108 rfl) rfl rfl ?_
                    refine g_icmp_ge (n := 219) (t := 258) hx (dq tX7_pass 109 rfl) (by decide) rfl (zrI h_334l h_334u (by decide) (by decide)) ⟨by omega, by omega⟩ (fun c_335 => ?_) (fun c_335 => ?_)
                    · exact g_vret hx hr (dq tX7_pass 131 rfl) (fun u_ v_ huv_ => (((((f_328 u_ v_ (by omega)).trans (m_317 u_ v_ (by omega))).trans (m_309 u_ v_ (by omega))).trans (f_7 u_ v_ (by omega))).trans (m_3 u_ v_ (by omega))))
                    · refine g_aload_n (n := 220) hx 3 (dq tX7_pass 110 rfl) rfl rfl ?_
                      refine g_getR (n := 223) hx glX7_9 (sX7_0 (by decide)) (dq tX7_pass 111 rfl) rfl ?_
                      refine g_aload_n (n := 224) hx 3 (dq tX7_pass 112 rfl) rfl rfl ?_
                      refine g_getI (n := 227) hx glX7_22 (sX7_3 (by decide)) (dq tX7_pass 113 rfl) rfl (fun h_336l h_336u => ?_)
                      refine g_iald (n := 228) (q := (M_325 7 3).toNat) hx (aX7_0 (b := 7) (by decide)) (dq tX7_pass 114 rfl) rfl (by omega) (by omega) (by omega) rfl (fun h_337l h_337u => ?_)
                      refine g_iload_n (n := 229) hx 2 (dq tX7_pass 115 rfl) rfl rfl ?_
                      refine g_icmp_lt (n := 232) (t := 258) hx (dq tX7_pass 116 rfl) (by decide) rfl (zrI h_337l h_337u (by decide) (by decide)) ⟨by decide, by decide⟩ (fun c_338 => ?_) (fun c_338 => ?_)
                      · exact g_vret hx hr (dq tX7_pass 131 rfl) (fun u_ v_ huv_ => (((((f_328 u_ v_ (by omega)).trans (m_317 u_ v_ (by omega))).trans (m_309 u_ v_ (by omega))).trans (f_7 u_ v_ (by omega))).trans (m_3 u_ v_ (by omega))))
                      · refine g_aload_n (n := 233) hx 3 (dq tX7_pass 117 rfl) rfl rfl ?_
                        refine g_getR (n := 236) hx glX7_9 (sX7_0 (by decide)) (dq tX7_pass 118 rfl) rfl ?_
                        refine g_aload_n (n := 237) hx 3 (dq tX7_pass 119 rfl) rfl rfl ?_
                        refine g_getI (n := 240) hx glX7_22 (sX7_3 (by decide)) (dq tX7_pass 120 rfl) rfl (fun h_339l h_339u => ?_)
                        refine g_iald (n := 241) (q := (M_325 7 3).toNat) hx (aX7_0 (b := 7) (by decide)) (dq tX7_pass 121 rfl) rfl (by omega) (by omega) (by omega) rfl (fun h_340l h_340u => ?_)
                        refine g_iload_n (n := 242) hx 1 (dq tX7_pass 122 rfl) rfl rfl ?_
                        refine g_icmp_gt (n := 245) (t := 258) hx (dq tX7_pass 123 rfl) (by decide) rfl (zrI h_340l h_340u (by decide) (by decide)) ⟨by decide, by decide⟩ (fun c_341 => ?_) (fun c_341 => ?_)
                        · exact g_vret hx hr (dq tX7_pass 131 rfl) (fun u_ v_ huv_ => (((((f_328 u_ v_ (by omega)).trans (m_317 u_ v_ (by omega))).trans (m_309 u_ v_ (by omega))).trans (f_7 u_ v_ (by omega))).trans (m_3 u_ v_ (by omega))))
                        · refine g_aload_n (n := 246) hx 3 (dq tX7_pass 124 rfl) rfl rfl ?_
                          refine g_dup (n := 247) hx (dq tX7_pass 125 rfl) rfl rfl ?_
                          refine g_getI (n := 250) hx glX7_22 (sX7_3 (by decide)) (dq tX7_pass 126 rfl) rfl (fun h_342l h_342u => ?_)
                          refine g_iconst (n := 251) hx (dq tX7_pass 127 rfl) rfl ?_
                          refine g_iadd (n := 252) hx (dq tX7_pass 128 rfl) rfl ?_
                          refine g_putI (n := 255) hx plX7_22 (sX7_3 (by decide)) (dq tX7_pass 129 rfl) rfl (by omega) (by omega) (fun M_343 m_344e m_344 => ?_)
                          refine g_goto (n := 200) hx (dq tX7_pass 130 rfl) (by decide) ?_
                          exact ih_327 _ (by omega) M_343 (fun u_ v_ huv_ => ((m_344 u_ v_ (by omega)).trans (f_328 u_ v_ (by omega)))) rfl
              exact L_326 _ M_316 (fun _ _ _ => rfl) rfl
            · refine g_aload_n (n := 125) hx 3 (dq tX7_pass 62 rfl) rfl rfl ?_
              refine g_getI (n := 128) hx glX7_31 (sX7_4 (by decide)) (dq tX7_pass 63 rfl) rfl (fun h_345l h_345u => ?_)
              refine g_bipush (n := 130) hx (dq tX7_pass 64 rfl) rfl (by decide) ?_
              refine g_icmp_ne (n := 133) (t := 149) hx (dq tX7_pass 65 rfl) (by decide) rfl (zrI h_345l h_345u (by decide) (by decide)) ⟨by decide, by decide⟩ (fun c_346 => ?_) (fun c_346 => ?_)
              · refine g_aload_n (n := 150) hx 3 (dq tX7_pass 76 rfl) rfl rfl ?_
                refine g_getI (n := 153) hx glX7_31 (sX7_4 (by decide)) (dq tX7_pass 77 rfl) rfl (fun h_347l h_347u => ?_)
                refine g_bipush (n := 155) hx (dq tX7_pass 78 rfl) rfl (by decide) ?_
                refine g_icmp_lt (n := 158) (t := 176) hx (dq tX7_pass 79 rfl) (by decide) rfl (zrI h_347l h_347u (by decide) (by decide)) ⟨by decide, by decide⟩ (fun c_348 => ?_) (fun c_348 => ?_)
                · refine g_aload_n (n := 177) hx 3 (dq tX7_pass 89 rfl) rfl rfl ?_
                  refine g_getI (n := 180) hx glX7_31 (sX7_4 (by decide)) (dq tX7_pass 90 rfl) rfl (fun h_349l h_349u => ?_)
                  refine g_bipush (n := 182) hx (dq tX7_pass 91 rfl) rfl (by decide) ?_
                  refine g_icmp_lt (n := 185) (t := 200) hx (dq tX7_pass 92 rfl) (by decide) rfl (zrI h_349l h_349u (by decide) (by decide)) ⟨by decide, by decide⟩ (fun c_350 => ?_) (fun c_350 => ?_)
                  · have L_351 : ∀ (n_ : Nat), ((400 - M_316 7 3).toNat = n_) → G Γ x 4 (QV Γ x (qctX7_pass M)) M_316 200 [(3, vI (M_316 7 1)), (2, vI 256), (1, vI 256), (0, aR Γ 7)] [] := by
                      intro n_
                      induction n_ using Nat.strongRecOn with
                      | _ n_ ih_352 =>
                        intro hm_354
                        refine g_aload_n (n := 201) hx 3 (dq tX7_pass 101 rfl) rfl rfl ?_
                        refine g_getI (n := 204) hx glX7_22 (sX7_3 (by decide)) (dq tX7_pass 102 rfl) rfl (fun h_355l h_355u => ?_)
                        refine g_aload_n (n := 205) hx 3 (dq tX7_pass 103 rfl) rfl rfl ?_
                        refine g_getI (n := 208) hx glX7_15 (sX7_1 (by decide)) (dq tX7_pass 104 rfl) rfl (fun h_356l h_356u => ?_)
                        refine g_icmp_ge (n := 211) (t := 258) hx (dq tX7_pass 105 rfl) (by decide) rfl (zrI h_355l h_355u (by decide) (by decide)) (zrI h_356l h_356u (by decide) (by decide)) (fun c_357 => ?_) (fun c_357 => ?_)
                        · exact g_vret hx hr (dq tX7_pass 131 rfl) (fun u_ v_ huv_ => ((((m_317 u_ v_ (by omega)).trans (m_309 u_ v_ (by omega))).trans (f_7 u_ v_ (by omega))).trans (m_3 u_ v_ (by omega))))
                        · refine g_aload_n (n := 212) hx 3 (dq tX7_pass 106 rfl) rfl rfl ?_
                          refine g_getI (n := 215) hx glX7_22 (sX7_3 (by decide)) (dq tX7_pass 107 rfl) rfl (fun h_358l h_358u => ?_)
                          refine g_iload_n (n := 216) hx 0 (dq tX7_pass 108 rfl) rfl rfl ?_
                          refine g_icmp_ge (n := 219) (t := 258) hx (dq tX7_pass 109 rfl) (by decide) rfl (zrI h_358l h_358u (by decide) (by decide)) (zrI h_318l h_318u (by decide) (by decide)) (fun c_359 => ?_) (fun c_359 => ?_)
                          · exact g_vret hx hr (dq tX7_pass 131 rfl) (fun u_ v_ huv_ => ((((m_317 u_ v_ (by omega)).trans (m_309 u_ v_ (by omega))).trans (f_7 u_ v_ (by omega))).trans (m_3 u_ v_ (by omega))))
                          · refine g_aload_n (n := 220) hx 3 (dq tX7_pass 110 rfl) rfl rfl ?_
                            refine g_getR (n := 223) hx glX7_9 (sX7_0 (by decide)) (dq tX7_pass 111 rfl) rfl ?_
                            refine g_aload_n (n := 224) hx 3 (dq tX7_pass 112 rfl) rfl rfl ?_
                            refine g_getI (n := 227) hx glX7_22 (sX7_3 (by decide)) (dq tX7_pass 113 rfl) rfl (fun h_360l h_360u => ?_)
                            refine g_iald (n := 228) (q := (M_316 7 3).toNat) hx (aX7_0 (b := 7) (by decide)) (dq tX7_pass 114 rfl) rfl (by omega) (by omega) (by omega) rfl (fun h_361l h_361u => ?_)
                            refine g_iload_n (n := 229) hx 2 (dq tX7_pass 115 rfl) rfl rfl ?_
                            refine g_icmp_lt (n := 232) (t := 258) hx (dq tX7_pass 116 rfl) (by decide) rfl (zrI h_361l h_361u (by decide) (by decide)) ⟨by decide, by decide⟩ (fun c_362 => ?_) (fun c_362 => ?_)
                            · exact g_vret hx hr (dq tX7_pass 131 rfl) (fun u_ v_ huv_ => ((((m_317 u_ v_ (by omega)).trans (m_309 u_ v_ (by omega))).trans (f_7 u_ v_ (by omega))).trans (m_3 u_ v_ (by omega))))
                            · omega
                    exact L_351 _ rfl
                  · refine g_aload_n (n := 186) hx 3 (dq tX7_pass 93 rfl) rfl rfl ?_
                    refine g_getI (n := 189) hx glX7_31 (sX7_4 (by decide)) (dq tX7_pass 94 rfl) rfl (fun h_363l h_363u => ?_)
                    refine g_bipush (n := 191) hx (dq tX7_pass 95 rfl) rfl (by decide) ?_
                    refine g_icmp_gt (n := 194) (t := 200) hx (dq tX7_pass 96 rfl) (by decide) rfl (zrI h_363l h_363u (by decide) (by decide)) ⟨by decide, by decide⟩ (fun c_364 => ?_) (fun c_364 => ?_)
                    · have L_365 : ∀ (n_ : Nat), ((400 - M_316 7 3).toNat = n_) → G Γ x 4 (QV Γ x (qctX7_pass M)) M_316 200 [(3, vI (M_316 7 1)), (2, vI 256), (1, vI 256), (0, aR Γ 7)] [] := by
                        intro n_
                        induction n_ using Nat.strongRecOn with
                        | _ n_ ih_366 =>
                          intro hm_368
                          refine g_aload_n (n := 201) hx 3 (dq tX7_pass 101 rfl) rfl rfl ?_
                          refine g_getI (n := 204) hx glX7_22 (sX7_3 (by decide)) (dq tX7_pass 102 rfl) rfl (fun h_369l h_369u => ?_)
                          refine g_aload_n (n := 205) hx 3 (dq tX7_pass 103 rfl) rfl rfl ?_
                          refine g_getI (n := 208) hx glX7_15 (sX7_1 (by decide)) (dq tX7_pass 104 rfl) rfl (fun h_370l h_370u => ?_)
                          refine g_icmp_ge (n := 211) (t := 258) hx (dq tX7_pass 105 rfl) (by decide) rfl (zrI h_369l h_369u (by decide) (by decide)) (zrI h_370l h_370u (by decide) (by decide)) (fun c_371 => ?_) (fun c_371 => ?_)
                          · exact g_vret hx hr (dq tX7_pass 131 rfl) (fun u_ v_ huv_ => ((((m_317 u_ v_ (by omega)).trans (m_309 u_ v_ (by omega))).trans (f_7 u_ v_ (by omega))).trans (m_3 u_ v_ (by omega))))
                          · refine g_aload_n (n := 212) hx 3 (dq tX7_pass 106 rfl) rfl rfl ?_
                            refine g_getI (n := 215) hx glX7_22 (sX7_3 (by decide)) (dq tX7_pass 107 rfl) rfl (fun h_372l h_372u => ?_)
                            refine g_iload_n (n := 216) hx 0 (dq tX7_pass 108 rfl) rfl rfl ?_
                            refine g_icmp_ge (n := 219) (t := 258) hx (dq tX7_pass 109 rfl) (by decide) rfl (zrI h_372l h_372u (by decide) (by decide)) (zrI h_318l h_318u (by decide) (by decide)) (fun c_373 => ?_) (fun c_373 => ?_)
                            · exact g_vret hx hr (dq tX7_pass 131 rfl) (fun u_ v_ huv_ => ((((m_317 u_ v_ (by omega)).trans (m_309 u_ v_ (by omega))).trans (f_7 u_ v_ (by omega))).trans (m_3 u_ v_ (by omega))))
                            · refine g_aload_n (n := 220) hx 3 (dq tX7_pass 110 rfl) rfl rfl ?_
                              refine g_getR (n := 223) hx glX7_9 (sX7_0 (by decide)) (dq tX7_pass 111 rfl) rfl ?_
                              refine g_aload_n (n := 224) hx 3 (dq tX7_pass 112 rfl) rfl rfl ?_
                              refine g_getI (n := 227) hx glX7_22 (sX7_3 (by decide)) (dq tX7_pass 113 rfl) rfl (fun h_374l h_374u => ?_)
                              refine g_iald (n := 228) (q := (M_316 7 3).toNat) hx (aX7_0 (b := 7) (by decide)) (dq tX7_pass 114 rfl) rfl (by omega) (by omega) (by omega) rfl (fun h_375l h_375u => ?_)
                              refine g_iload_n (n := 229) hx 2 (dq tX7_pass 115 rfl) rfl rfl ?_
                              refine g_icmp_lt (n := 232) (t := 258) hx (dq tX7_pass 116 rfl) (by decide) rfl (zrI h_375l h_375u (by decide) (by decide)) ⟨by decide, by decide⟩ (fun c_376 => ?_) (fun c_376 => ?_)
                              · exact g_vret hx hr (dq tX7_pass 131 rfl) (fun u_ v_ huv_ => ((((m_317 u_ v_ (by omega)).trans (m_309 u_ v_ (by omega))).trans (f_7 u_ v_ (by omega))).trans (m_3 u_ v_ (by omega))))
                              · omega
                      exact L_365 _ rfl
                    · refine g_bipush (n := 196) hx (dq tX7_pass 97 rfl) rfl (by decide) ?_
                      refine g_istore_n (n := 197) (lv' := [(1, vI 48), (3, vI (M_316 7 1)), (2, vI 256), (0, aR Γ 7)]) hx (dq tX7_pass 98 rfl) (by decide) rfl rfl ?_
                      refine g_bipush (n := 199) hx (dq tX7_pass 99 rfl) rfl (by decide) ?_
                      refine g_istore_n (n := 200) (lv' := [(2, vI 57), (1, vI 48), (3, vI (M_316 7 1)), (0, aR Γ 7)]) hx (dq tX7_pass 100 rfl) (by decide) rfl rfl ?_
                      have L_378 : ∀ (n_ : Nat) (M_377 : zM), (∀ u_ v_, (u_ ≠ 7 ∨ v_ ≠ 3) → M_377 u_ v_ = M_316 u_ v_) → ((400 - M_377 7 3).toNat = n_) → G Γ x 4 (QV Γ x (qctX7_pass M)) M_377 200 [(2, vI 57), (1, vI 48), (3, vI (M_316 7 1)), (0, aR Γ 7)] [] := by
                        intro n_
                        induction n_ using Nat.strongRecOn with
                        | _ n_ ih_379 =>
                          intro M_377 f_380 hm_381
                          refine g_aload_n (n := 201) hx 3 (dq tX7_pass 101 rfl) rfl rfl ?_
                          refine g_getI (n := 204) hx glX7_22 (sX7_3 (by decide)) (dq tX7_pass 102 rfl) rfl (fun h_382l h_382u => ?_)
                          refine g_aload_n (n := 205) hx 3 (dq tX7_pass 103 rfl) rfl rfl ?_
                          refine g_getI (n := 208) hx glX7_15 (sX7_1 (by decide)) (dq tX7_pass 104 rfl) rfl (fun h_383l h_383u => ?_)
                          have e_384 : M_377 7 1 = M_316 7 1 := (f_380 7 1 (by omega))
                          refine g_icmp_ge (n := 211) (t := 258) hx (dq tX7_pass 105 rfl) (by decide) rfl (zrI h_382l h_382u (by decide) (by decide)) (zrI h_383l h_383u (by decide) (by decide)) (fun c_385 => ?_) (fun c_385 => ?_)
                          · exact g_vret hx hr (dq tX7_pass 131 rfl) (fun u_ v_ huv_ => (((((f_380 u_ v_ (by omega)).trans (m_317 u_ v_ (by omega))).trans (m_309 u_ v_ (by omega))).trans (f_7 u_ v_ (by omega))).trans (m_3 u_ v_ (by omega))))
                          · refine g_aload_n (n := 212) hx 3 (dq tX7_pass 106 rfl) rfl rfl ?_
                            refine g_getI (n := 215) hx glX7_22 (sX7_3 (by decide)) (dq tX7_pass 107 rfl) rfl (fun h_386l h_386u => ?_)
                            refine g_iload_n (n := 216) hx 2 (dq tX7_pass 108 rfl) rfl rfl ?_
                            refine g_icmp_ge (n := 219) (t := 258) hx (dq tX7_pass 109 rfl) (by decide) rfl (zrI h_386l h_386u (by decide) (by decide)) (zrI h_318l h_318u (by decide) (by decide)) (fun c_387 => ?_) (fun c_387 => ?_)
                            · exact g_vret hx hr (dq tX7_pass 131 rfl) (fun u_ v_ huv_ => (((((f_380 u_ v_ (by omega)).trans (m_317 u_ v_ (by omega))).trans (m_309 u_ v_ (by omega))).trans (f_7 u_ v_ (by omega))).trans (m_3 u_ v_ (by omega))))
                            · refine g_aload_n (n := 220) hx 3 (dq tX7_pass 110 rfl) rfl rfl ?_
                              refine g_getR (n := 223) hx glX7_9 (sX7_0 (by decide)) (dq tX7_pass 111 rfl) rfl ?_
                              refine g_aload_n (n := 224) hx 3 (dq tX7_pass 112 rfl) rfl rfl ?_
                              refine g_getI (n := 227) hx glX7_22 (sX7_3 (by decide)) (dq tX7_pass 113 rfl) rfl (fun h_388l h_388u => ?_)
                              refine g_iald (n := 228) (q := (M_377 7 3).toNat) hx (aX7_0 (b := 7) (by decide)) (dq tX7_pass 114 rfl) rfl (by omega) (by omega) (by omega) rfl (fun h_389l h_389u => ?_)
                              refine g_iload_n (n := 229) hx 1 (dq tX7_pass 115 rfl) rfl rfl ?_
                              refine g_icmp_lt (n := 232) (t := 258) hx (dq tX7_pass 116 rfl) (by decide) rfl (zrI h_389l h_389u (by decide) (by decide)) ⟨by decide, by decide⟩ (fun c_390 => ?_) (fun c_390 => ?_)
                              · exact g_vret hx hr (dq tX7_pass 131 rfl) (fun u_ v_ huv_ => (((((f_380 u_ v_ (by omega)).trans (m_317 u_ v_ (by omega))).trans (m_309 u_ v_ (by omega))).trans (f_7 u_ v_ (by omega))).trans (m_3 u_ v_ (by omega))))
                              · refine g_aload_n (n := 233) hx 3 (dq tX7_pass 117 rfl) rfl rfl ?_
                                refine g_getR (n := 236) hx glX7_9 (sX7_0 (by decide)) (dq tX7_pass 118 rfl) rfl ?_
                                refine g_aload_n (n := 237) hx 3 (dq tX7_pass 119 rfl) rfl rfl ?_
                                refine g_getI (n := 240) hx glX7_22 (sX7_3 (by decide)) (dq tX7_pass 120 rfl) rfl (fun h_391l h_391u => ?_)
                                refine g_iald (n := 241) (q := (M_377 7 3).toNat) hx (aX7_0 (b := 7) (by decide)) (dq tX7_pass 121 rfl) rfl (by omega) (by omega) (by omega) rfl (fun h_392l h_392u => ?_)
                                refine g_iload_n (n := 242) hx 0 (dq tX7_pass 122 rfl) rfl rfl ?_
                                refine g_icmp_gt (n := 245) (t := 258) hx (dq tX7_pass 123 rfl) (by decide) rfl (zrI h_392l h_392u (by decide) (by decide)) ⟨by decide, by decide⟩ (fun c_393 => ?_) (fun c_393 => ?_)
                                · exact g_vret hx hr (dq tX7_pass 131 rfl) (fun u_ v_ huv_ => (((((f_380 u_ v_ (by omega)).trans (m_317 u_ v_ (by omega))).trans (m_309 u_ v_ (by omega))).trans (f_7 u_ v_ (by omega))).trans (m_3 u_ v_ (by omega))))
                                · refine g_aload_n (n := 246) hx 3 (dq tX7_pass 124 rfl) rfl rfl ?_
                                  refine g_dup (n := 247) hx (dq tX7_pass 125 rfl) rfl rfl ?_
                                  refine g_getI (n := 250) hx glX7_22 (sX7_3 (by decide)) (dq tX7_pass 126 rfl) rfl (fun h_394l h_394u => ?_)
                                  refine g_iconst (n := 251) hx (dq tX7_pass 127 rfl) rfl ?_
                                  refine g_iadd (n := 252) hx (dq tX7_pass 128 rfl) rfl ?_
                                  refine g_putI (n := 255) hx plX7_22 (sX7_3 (by decide)) (dq tX7_pass 129 rfl) rfl (by omega) (by omega) (fun M_395 m_396e m_396 => ?_)
                                  refine g_goto (n := 200) hx (dq tX7_pass 130 rfl) (by decide) ?_
                                  exact ih_379 _ (by omega) M_395 (fun u_ v_ huv_ => ((m_396 u_ v_ (by omega)).trans (f_380 u_ v_ (by omega)))) rfl
                      exact L_378 _ M_316 (fun _ _ _ => rfl) rfl
                · refine g_aload_n (n := 159) hx 3 (dq tX7_pass 80 rfl) rfl rfl ?_
                  refine g_getI (n := 162) hx glX7_31 (sX7_4 (by decide)) (dq tX7_pass 81 rfl) rfl (fun h_397l h_397u => ?_)
                  refine g_bipush (n := 164) hx (dq tX7_pass 82 rfl) rfl (by decide) ?_
                  refine g_icmp_gt (n := 167) (t := 176) hx (dq tX7_pass 83 rfl) (by decide) rfl (zrI h_397l h_397u (by decide) (by decide)) ⟨by decide, by decide⟩ (fun c_398 => ?_) (fun c_398 => ?_)
                  · refine g_aload_n (n := 177) hx 3 (dq tX7_pass 89 rfl) rfl rfl ?_
                    refine g_getI (n := 180) hx glX7_31 (sX7_4 (by decide)) (dq tX7_pass 90 rfl) rfl (fun h_399l h_399u => ?_)
                    refine g_bipush (n := 182) hx (dq tX7_pass 91 rfl) rfl (by decide) ?_
                    refine g_icmp_lt (n := 185) (t := 200) hx (dq tX7_pass 92 rfl) (by decide) rfl (zrI h_399l h_399u (by decide) (by decide)) ⟨by decide, by decide⟩ (fun c_400 => ?_) (fun c_400 => ?_)
                    · omega
                    · refine g_aload_n (n := 186) hx 3 (dq tX7_pass 93 rfl) rfl rfl ?_
                      refine g_getI (n := 189) hx glX7_31 (sX7_4 (by decide)) (dq tX7_pass 94 rfl) rfl (fun h_401l h_401u => ?_)
                      refine g_bipush (n := 191) hx (dq tX7_pass 95 rfl) rfl (by decide) ?_
                      refine g_icmp_gt (n := 194) (t := 200) hx (dq tX7_pass 96 rfl) (by decide) rfl (zrI h_401l h_401u (by decide) (by decide)) ⟨by decide, by decide⟩ (fun c_402 => ?_) (fun c_402 => ?_)
                      · have L_403 : ∀ (n_ : Nat), ((400 - M_316 7 3).toNat = n_) → G Γ x 4 (QV Γ x (qctX7_pass M)) M_316 200 [(3, vI (M_316 7 1)), (2, vI 256), (1, vI 256), (0, aR Γ 7)] [] := by
                          intro n_
                          induction n_ using Nat.strongRecOn with
                          | _ n_ ih_404 =>
                            intro hm_406
                            refine g_aload_n (n := 201) hx 3 (dq tX7_pass 101 rfl) rfl rfl ?_
                            refine g_getI (n := 204) hx glX7_22 (sX7_3 (by decide)) (dq tX7_pass 102 rfl) rfl (fun h_407l h_407u => ?_)
                            refine g_aload_n (n := 205) hx 3 (dq tX7_pass 103 rfl) rfl rfl ?_
                            refine g_getI (n := 208) hx glX7_15 (sX7_1 (by decide)) (dq tX7_pass 104 rfl) rfl (fun h_408l h_408u => ?_)
                            refine g_icmp_ge (n := 211) (t := 258) hx (dq tX7_pass 105 rfl) (by decide) rfl (zrI h_407l h_407u (by decide) (by decide)) (zrI h_408l h_408u (by decide) (by decide)) (fun c_409 => ?_) (fun c_409 => ?_)
                            · exact g_vret hx hr (dq tX7_pass 131 rfl) (fun u_ v_ huv_ => ((((m_317 u_ v_ (by omega)).trans (m_309 u_ v_ (by omega))).trans (f_7 u_ v_ (by omega))).trans (m_3 u_ v_ (by omega))))
                            · refine g_aload_n (n := 212) hx 3 (dq tX7_pass 106 rfl) rfl rfl ?_
                              refine g_getI (n := 215) hx glX7_22 (sX7_3 (by decide)) (dq tX7_pass 107 rfl) rfl (fun h_410l h_410u => ?_)
                              refine g_iload_n (n := 216) hx 0 (dq tX7_pass 108 rfl) rfl rfl ?_
                              refine g_icmp_ge (n := 219) (t := 258) hx (dq tX7_pass 109 rfl) (by decide) rfl (zrI h_410l h_410u (by decide) (by decide)) (zrI h_318l h_318u (by decide) (by decide)) (fun c_411 => ?_) (fun c_411 => ?_)
                              · exact g_vret hx hr (dq tX7_pass 131 rfl) (fun u_ v_ huv_ => ((((m_317 u_ v_ (by omega)).trans (m_309 u_ v_ (by omega))).trans (f_7 u_ v_ (by omega))).trans (m_3 u_ v_ (by omega))))
                              · refine g_aload_n (n := 220) hx 3 (dq tX7_pass 110 rfl) rfl rfl ?_
                                refine g_getR (n := 223) hx glX7_9 (sX7_0 (by decide)) (dq tX7_pass 111 rfl) rfl ?_
                                refine g_aload_n (n := 224) hx 3 (dq tX7_pass 112 rfl) rfl rfl ?_
                                refine g_getI (n := 227) hx glX7_22 (sX7_3 (by decide)) (dq tX7_pass 113 rfl) rfl (fun h_412l h_412u => ?_)
                                refine g_iald (n := 228) (q := (M_316 7 3).toNat) hx (aX7_0 (b := 7) (by decide)) (dq tX7_pass 114 rfl) rfl (by omega) (by omega) (by omega) rfl (fun h_413l h_413u => ?_)
                                refine g_iload_n (n := 229) hx 2 (dq tX7_pass 115 rfl) rfl rfl ?_
                                refine g_icmp_lt (n := 232) (t := 258) hx (dq tX7_pass 116 rfl) (by decide) rfl (zrI h_413l h_413u (by decide) (by decide)) ⟨by decide, by decide⟩ (fun c_414 => ?_) (fun c_414 => ?_)
                                · exact g_vret hx hr (dq tX7_pass 131 rfl) (fun u_ v_ huv_ => ((((m_317 u_ v_ (by omega)).trans (m_309 u_ v_ (by omega))).trans (f_7 u_ v_ (by omega))).trans (m_3 u_ v_ (by omega))))
                                · omega
                        exact L_403 _ rfl
                      · omega
                  · refine g_bipush (n := 169) hx (dq tX7_pass 84 rfl) rfl (by decide) ?_
                    refine g_istore_n (n := 170) (lv' := [(1, vI 97), (3, vI (M_316 7 1)), (2, vI 256), (0, aR Γ 7)]) hx (dq tX7_pass 85 rfl) (by decide) rfl rfl ?_
                    refine g_bipush (n := 172) hx (dq tX7_pass 86 rfl) rfl (by decide) ?_
                    refine g_istore_n (n := 173) (lv' := [(2, vI 122), (1, vI 97), (3, vI (M_316 7 1)), (0, aR Γ 7)]) hx (dq tX7_pass 87 rfl) (by decide) rfl rfl ?_
                    refine g_goto (n := 200) hx (dq tX7_pass 88 rfl) (by decide) ?_
                    have L_416 : ∀ (n_ : Nat) (M_415 : zM), (∀ u_ v_, (u_ ≠ 7 ∨ v_ ≠ 3) → M_415 u_ v_ = M_316 u_ v_) → ((400 - M_415 7 3).toNat = n_) → G Γ x 4 (QV Γ x (qctX7_pass M)) M_415 200 [(2, vI 122), (1, vI 97), (3, vI (M_316 7 1)), (0, aR Γ 7)] [] := by
                      intro n_
                      induction n_ using Nat.strongRecOn with
                      | _ n_ ih_417 =>
                        intro M_415 f_418 hm_419
                        refine g_aload_n (n := 201) hx 3 (dq tX7_pass 101 rfl) rfl rfl ?_
                        refine g_getI (n := 204) hx glX7_22 (sX7_3 (by decide)) (dq tX7_pass 102 rfl) rfl (fun h_420l h_420u => ?_)
                        refine g_aload_n (n := 205) hx 3 (dq tX7_pass 103 rfl) rfl rfl ?_
                        refine g_getI (n := 208) hx glX7_15 (sX7_1 (by decide)) (dq tX7_pass 104 rfl) rfl (fun h_421l h_421u => ?_)
                        have e_422 : M_415 7 1 = M_316 7 1 := (f_418 7 1 (by omega))
                        refine g_icmp_ge (n := 211) (t := 258) hx (dq tX7_pass 105 rfl) (by decide) rfl (zrI h_420l h_420u (by decide) (by decide)) (zrI h_421l h_421u (by decide) (by decide)) (fun c_423 => ?_) (fun c_423 => ?_)
                        · exact g_vret hx hr (dq tX7_pass 131 rfl) (fun u_ v_ huv_ => (((((f_418 u_ v_ (by omega)).trans (m_317 u_ v_ (by omega))).trans (m_309 u_ v_ (by omega))).trans (f_7 u_ v_ (by omega))).trans (m_3 u_ v_ (by omega))))
                        · refine g_aload_n (n := 212) hx 3 (dq tX7_pass 106 rfl) rfl rfl ?_
                          refine g_getI (n := 215) hx glX7_22 (sX7_3 (by decide)) (dq tX7_pass 107 rfl) rfl (fun h_424l h_424u => ?_)
                          refine g_iload_n (n := 216) hx 2 (dq tX7_pass 108 rfl) rfl rfl ?_
                          refine g_icmp_ge (n := 219) (t := 258) hx (dq tX7_pass 109 rfl) (by decide) rfl (zrI h_424l h_424u (by decide) (by decide)) (zrI h_318l h_318u (by decide) (by decide)) (fun c_425 => ?_) (fun c_425 => ?_)
                          · exact g_vret hx hr (dq tX7_pass 131 rfl) (fun u_ v_ huv_ => (((((f_418 u_ v_ (by omega)).trans (m_317 u_ v_ (by omega))).trans (m_309 u_ v_ (by omega))).trans (f_7 u_ v_ (by omega))).trans (m_3 u_ v_ (by omega))))
                          · refine g_aload_n (n := 220) hx 3 (dq tX7_pass 110 rfl) rfl rfl ?_
                            refine g_getR (n := 223) hx glX7_9 (sX7_0 (by decide)) (dq tX7_pass 111 rfl) rfl ?_
                            refine g_aload_n (n := 224) hx 3 (dq tX7_pass 112 rfl) rfl rfl ?_
                            refine g_getI (n := 227) hx glX7_22 (sX7_3 (by decide)) (dq tX7_pass 113 rfl) rfl (fun h_426l h_426u => ?_)
                            refine g_iald (n := 228) (q := (M_415 7 3).toNat) hx (aX7_0 (b := 7) (by decide)) (dq tX7_pass 114 rfl) rfl (by omega) (by omega) (by omega) rfl (fun h_427l h_427u => ?_)
                            refine g_iload_n (n := 229) hx 1 (dq tX7_pass 115 rfl) rfl rfl ?_
                            refine g_icmp_lt (n := 232) (t := 258) hx (dq tX7_pass 116 rfl) (by decide) rfl (zrI h_427l h_427u (by decide) (by decide)) ⟨by decide, by decide⟩ (fun c_428 => ?_) (fun c_428 => ?_)
                            · exact g_vret hx hr (dq tX7_pass 131 rfl) (fun u_ v_ huv_ => (((((f_418 u_ v_ (by omega)).trans (m_317 u_ v_ (by omega))).trans (m_309 u_ v_ (by omega))).trans (f_7 u_ v_ (by omega))).trans (m_3 u_ v_ (by omega))))
                            · refine g_aload_n (n := 233) hx 3 (dq tX7_pass 117 rfl) rfl rfl ?_
                              refine g_getR (n := 236) hx glX7_9 (sX7_0 (by decide)) (dq tX7_pass 118 rfl) rfl ?_
                              refine g_aload_n (n := 237) hx 3 (dq tX7_pass 119 rfl) rfl rfl ?_
                              refine g_getI (n := 240) hx glX7_22 (sX7_3 (by decide)) (dq tX7_pass 120 rfl) rfl (fun h_429l h_429u => ?_)
                              refine g_iald (n := 241) (q := (M_415 7 3).toNat) hx (aX7_0 (b := 7) (by decide)) (dq tX7_pass 121 rfl) rfl (by omega) (by omega) (by omega) rfl (fun h_430l h_430u => ?_)
                              refine g_iload_n (n := 242) hx 0 (dq tX7_pass 122 rfl) rfl rfl ?_
                              refine g_icmp_gt (n := 245) (t := 258) hx (dq tX7_pass 123 rfl) (by decide) rfl (zrI h_430l h_430u (by decide) (by decide)) ⟨by decide, by decide⟩ (fun c_431 => ?_) (fun c_431 => ?_)
                              · exact g_vret hx hr (dq tX7_pass 131 rfl) (fun u_ v_ huv_ => (((((f_418 u_ v_ (by omega)).trans (m_317 u_ v_ (by omega))).trans (m_309 u_ v_ (by omega))).trans (f_7 u_ v_ (by omega))).trans (m_3 u_ v_ (by omega))))
                              · refine g_aload_n (n := 246) hx 3 (dq tX7_pass 124 rfl) rfl rfl ?_
                                refine g_dup (n := 247) hx (dq tX7_pass 125 rfl) rfl rfl ?_
                                refine g_getI (n := 250) hx glX7_22 (sX7_3 (by decide)) (dq tX7_pass 126 rfl) rfl (fun h_432l h_432u => ?_)
                                refine g_iconst (n := 251) hx (dq tX7_pass 127 rfl) rfl ?_
                                refine g_iadd (n := 252) hx (dq tX7_pass 128 rfl) rfl ?_
                                refine g_putI (n := 255) hx plX7_22 (sX7_3 (by decide)) (dq tX7_pass 129 rfl) rfl (by omega) (by omega) (fun M_433 m_434e m_434 => ?_)
                                refine g_goto (n := 200) hx (dq tX7_pass 130 rfl) (by decide) ?_
                                exact ih_417 _ (by omega) M_433 (fun u_ v_ huv_ => ((m_434 u_ v_ (by omega)).trans (f_418 u_ v_ (by omega)))) rfl
                    exact L_416 _ M_316 (fun _ _ _ => rfl) rfl
              · refine g_bipush (n := 135) hx (dq tX7_pass 66 rfl) rfl (by decide) ?_
                refine g_istore_n (n := 136) (lv' := [(1, vI 61), (3, vI (M_316 7 1)), (2, vI 256), (0, aR Γ 7)]) hx (dq tX7_pass 67 rfl) (by decide) rfl rfl ?_
                refine g_bipush (n := 138) hx (dq tX7_pass 68 rfl) rfl (by decide) ?_
                refine g_istore_n (n := 139) (lv' := [(2, vI 61), (1, vI 61), (3, vI (M_316 7 1)), (0, aR Γ 7)]) hx (dq tX7_pass 69 rfl) (by decide) rfl rfl ?_
                refine g_aload_n (n := 140) hx 3 (dq tX7_pass 70 rfl) rfl rfl ?_
                refine g_getI (n := 143) hx glX7_28 (sX7_2 (by decide)) (dq tX7_pass 71 rfl) rfl (fun h_435l h_435u => ?_)
                have e_436 : M_316 7 2 = M_308 7 2 := (m_317 7 2 (by omega))
                refine g_iconst (n := 144) hx (dq tX7_pass 72 rfl) rfl ?_
                refine g_iadd (n := 145) hx (dq tX7_pass 73 rfl) rfl ?_
                refine g_istore_n (n := 146) (lv' := [(3, vI ((M_316 7 2) + 2)), (2, vI 61), (1, vI 61), (0, aR Γ 7)]) hx (dq tX7_pass 74 rfl) (by decide) rfl rfl ?_
                refine g_goto (n := 200) hx (dq tX7_pass 75 rfl) (by decide) ?_
                have L_438 : ∀ (n_ : Nat) (M_437 : zM), (∀ u_ v_, (u_ ≠ 7 ∨ v_ ≠ 3) → M_437 u_ v_ = M_316 u_ v_) → ((400 - M_437 7 3).toNat = n_) → G Γ x 4 (QV Γ x (qctX7_pass M)) M_437 200 [(3, vI ((M_316 7 2) + 2)), (2, vI 61), (1, vI 61), (0, aR Γ 7)] [] := by
                  intro n_
                  induction n_ using Nat.strongRecOn with
                  | _ n_ ih_439 =>
                    intro M_437 f_440 hm_441
                    refine g_aload_n (n := 201) hx 3 (dq tX7_pass 101 rfl) rfl rfl ?_
                    refine g_getI (n := 204) hx glX7_22 (sX7_3 (by decide)) (dq tX7_pass 102 rfl) rfl (fun h_442l h_442u => ?_)
                    refine g_aload_n (n := 205) hx 3 (dq tX7_pass 103 rfl) rfl rfl ?_
                    refine g_getI (n := 208) hx glX7_15 (sX7_1 (by decide)) (dq tX7_pass 104 rfl) rfl (fun h_443l h_443u => ?_)
                    have e_444 : M_437 7 1 = M_316 7 1 := (f_440 7 1 (by omega))
                    refine g_icmp_ge (n := 211) (t := 258) hx (dq tX7_pass 105 rfl) (by decide) rfl (zrI h_442l h_442u (by decide) (by decide)) (zrI h_443l h_443u (by decide) (by decide)) (fun c_445 => ?_) (fun c_445 => ?_)
                    · exact g_vret hx hr (dq tX7_pass 131 rfl) (fun u_ v_ huv_ => (((((f_440 u_ v_ (by omega)).trans (m_317 u_ v_ (by omega))).trans (m_309 u_ v_ (by omega))).trans (f_7 u_ v_ (by omega))).trans (m_3 u_ v_ (by omega))))
                    · refine g_aload_n (n := 212) hx 3 (dq tX7_pass 106 rfl) rfl rfl ?_
                      refine g_getI (n := 215) hx glX7_22 (sX7_3 (by decide)) (dq tX7_pass 107 rfl) rfl (fun h_446l h_446u => ?_)
                      refine g_iload_n (n := 216) hx 0 (dq tX7_pass 108 rfl) rfl rfl ?_
                      refine g_icmp_ge (n := 219) (t := 258) hx (dq tX7_pass 109 rfl) (by decide) rfl (zrI h_446l h_446u (by decide) (by decide)) ⟨by omega, by omega⟩ (fun c_447 => ?_) (fun c_447 => ?_)
                      · exact g_vret hx hr (dq tX7_pass 131 rfl) (fun u_ v_ huv_ => (((((f_440 u_ v_ (by omega)).trans (m_317 u_ v_ (by omega))).trans (m_309 u_ v_ (by omega))).trans (f_7 u_ v_ (by omega))).trans (m_3 u_ v_ (by omega))))
                      · refine g_aload_n (n := 220) hx 3 (dq tX7_pass 110 rfl) rfl rfl ?_
                        refine g_getR (n := 223) hx glX7_9 (sX7_0 (by decide)) (dq tX7_pass 111 rfl) rfl ?_
                        refine g_aload_n (n := 224) hx 3 (dq tX7_pass 112 rfl) rfl rfl ?_
                        refine g_getI (n := 227) hx glX7_22 (sX7_3 (by decide)) (dq tX7_pass 113 rfl) rfl (fun h_448l h_448u => ?_)
                        refine g_iald (n := 228) (q := (M_437 7 3).toNat) hx (aX7_0 (b := 7) (by decide)) (dq tX7_pass 114 rfl) rfl (by omega) (by omega) (by omega) rfl (fun h_449l h_449u => ?_)
                        refine g_iload_n (n := 229) hx 2 (dq tX7_pass 115 rfl) rfl rfl ?_
                        refine g_icmp_lt (n := 232) (t := 258) hx (dq tX7_pass 116 rfl) (by decide) rfl (zrI h_449l h_449u (by decide) (by decide)) ⟨by decide, by decide⟩ (fun c_450 => ?_) (fun c_450 => ?_)
                        · exact g_vret hx hr (dq tX7_pass 131 rfl) (fun u_ v_ huv_ => (((((f_440 u_ v_ (by omega)).trans (m_317 u_ v_ (by omega))).trans (m_309 u_ v_ (by omega))).trans (f_7 u_ v_ (by omega))).trans (m_3 u_ v_ (by omega))))
                        · refine g_aload_n (n := 233) hx 3 (dq tX7_pass 117 rfl) rfl rfl ?_
                          refine g_getR (n := 236) hx glX7_9 (sX7_0 (by decide)) (dq tX7_pass 118 rfl) rfl ?_
                          refine g_aload_n (n := 237) hx 3 (dq tX7_pass 119 rfl) rfl rfl ?_
                          refine g_getI (n := 240) hx glX7_22 (sX7_3 (by decide)) (dq tX7_pass 120 rfl) rfl (fun h_451l h_451u => ?_)
                          refine g_iald (n := 241) (q := (M_437 7 3).toNat) hx (aX7_0 (b := 7) (by decide)) (dq tX7_pass 121 rfl) rfl (by omega) (by omega) (by omega) rfl (fun h_452l h_452u => ?_)
                          refine g_iload_n (n := 242) hx 1 (dq tX7_pass 122 rfl) rfl rfl ?_
                          refine g_icmp_gt (n := 245) (t := 258) hx (dq tX7_pass 123 rfl) (by decide) rfl (zrI h_452l h_452u (by decide) (by decide)) ⟨by decide, by decide⟩ (fun c_453 => ?_) (fun c_453 => ?_)
                          · exact g_vret hx hr (dq tX7_pass 131 rfl) (fun u_ v_ huv_ => (((((f_440 u_ v_ (by omega)).trans (m_317 u_ v_ (by omega))).trans (m_309 u_ v_ (by omega))).trans (f_7 u_ v_ (by omega))).trans (m_3 u_ v_ (by omega))))
                          · refine g_aload_n (n := 246) hx 3 (dq tX7_pass 124 rfl) rfl rfl ?_
                            refine g_dup (n := 247) hx (dq tX7_pass 125 rfl) rfl rfl ?_
                            refine g_getI (n := 250) hx glX7_22 (sX7_3 (by decide)) (dq tX7_pass 126 rfl) rfl (fun h_454l h_454u => ?_)
                            refine g_iconst (n := 251) hx (dq tX7_pass 127 rfl) rfl ?_
                            refine g_iadd (n := 252) hx (dq tX7_pass 128 rfl) rfl ?_
                            refine g_putI (n := 255) hx plX7_22 (sX7_3 (by decide)) (dq tX7_pass 129 rfl) rfl (by omega) (by omega) (fun M_455 m_456e m_456 => ?_)
                            refine g_goto (n := 200) hx (dq tX7_pass 130 rfl) (by decide) ?_
                            exact ih_439 _ (by omega) M_455 (fun u_ v_ huv_ => ((m_456 u_ v_ (by omega)).trans (f_440 u_ v_ (by omega)))) rfl
                exact L_438 _ M_316 (fun _ _ _ => rfl) rfl
          · refine g_aload_n (n := 87) hx 0 (dq tX7_pass 43 rfl) rfl rfl ?_
            refine g_getI (n := 90) hx glX7_28 (sX7_2 (by decide)) (dq tX7_pass 44 rfl) rfl (fun h_457l h_457u => ?_)
            refine g_iconst (n := 91) hx (dq tX7_pass 45 rfl) rfl ?_
            refine g_iadd (n := 92) hx (dq tX7_pass 46 rfl) rfl ?_
            refine g_goto (n := 99) hx (dq tX7_pass 47 rfl) (by decide) ?_
            refine g_putI (n := 102) hx plX7_22 (sX7_3 (by decide)) (dq tX7_pass 50 rfl) rfl (by omega) (by omega) (fun M_458 m_459e m_459 => ?_)
            refine g_sipush (n := 105) hx (dq tX7_pass 51 rfl) rfl (by decide) ?_
            refine g_istore_n (n := 106) (lv' := [(1, vI 256), (0, aR Γ 7)]) hx (dq tX7_pass 52 rfl) (by decide) rfl rfl ?_
            refine g_sipush (n := 109) hx (dq tX7_pass 53 rfl) rfl (by decide) ?_
            refine g_istore_n (n := 110) (lv' := [(2, vI 256), (1, vI 256), (0, aR Γ 7)]) hx (dq tX7_pass 54 rfl) (by decide) rfl rfl ?_
            refine g_aload_n (n := 111) hx 2 (dq tX7_pass 55 rfl) rfl rfl ?_
            refine g_getI (n := 114) hx glX7_15 (sX7_1 (by decide)) (dq tX7_pass 56 rfl) rfl (fun h_460l h_460u => ?_)
            have e_461 : M_458 7 1 = M_308 7 1 := (m_459 7 1 (by omega))
            refine g_istore_n (n := 115) (lv' := [(3, vI (M_458 7 1)), (2, vI 256), (1, vI 256), (0, aR Γ 7)]) hx (dq tX7_pass 57 rfl) (by decide) rfl rfl ?_
            refine g_aload_n (n := 116) hx 3 (dq tX7_pass 58 rfl) rfl rfl ?_
            refine g_getI (n := 119) hx glX7_31 (sX7_4 (by decide)) (dq tX7_pass 59 rfl) rfl (fun h_462l h_462u => ?_)
            have e_463 : M_458 7 4 = M_308 7 4 := (m_459 7 4 (by omega))
            refine g_bipush (n := 121) hx (dq tX7_pass 60 rfl) rfl (by decide) ?_
            refine g_icmp_eq (n := 124) (t := 133) hx (dq tX7_pass 61 rfl) (by decide) rfl (zrI h_462l h_462u (by decide) (by decide)) ⟨by decide, by decide⟩ (fun c_464 => ?_) (fun c_464 => ?_)
            · refine g_bipush (n := 135) hx (dq tX7_pass 66 rfl) rfl (by decide) ?_
              refine g_istore_n (n := 136) (lv' := [(1, vI 61), (3, vI (M_458 7 1)), (2, vI 256), (0, aR Γ 7)]) hx (dq tX7_pass 67 rfl) (by decide) rfl rfl ?_
              refine g_bipush (n := 138) hx (dq tX7_pass 68 rfl) rfl (by decide) ?_
              refine g_istore_n (n := 139) (lv' := [(2, vI 61), (1, vI 61), (3, vI (M_458 7 1)), (0, aR Γ 7)]) hx (dq tX7_pass 69 rfl) (by decide) rfl rfl ?_
              refine g_aload_n (n := 140) hx 3 (dq tX7_pass 70 rfl) rfl rfl ?_
              refine g_getI (n := 143) hx glX7_28 (sX7_2 (by decide)) (dq tX7_pass 71 rfl) rfl (fun h_465l h_465u => ?_)
              have e_466 : M_458 7 2 = M_308 7 2 := (m_459 7 2 (by omega))
              refine g_iconst (n := 144) hx (dq tX7_pass 72 rfl) rfl ?_
              refine g_iadd (n := 145) hx (dq tX7_pass 73 rfl) rfl ?_
              refine g_istore_n (n := 146) (lv' := [(3, vI ((M_458 7 2) + 2)), (2, vI 61), (1, vI 61), (0, aR Γ 7)]) hx (dq tX7_pass 74 rfl) (by decide) rfl rfl ?_
              refine g_goto (n := 200) hx (dq tX7_pass 75 rfl) (by decide) ?_
              have L_468 : ∀ (n_ : Nat) (M_467 : zM), (∀ u_ v_, (u_ ≠ 7 ∨ v_ ≠ 3) → M_467 u_ v_ = M_458 u_ v_) → ((400 - M_467 7 3).toNat = n_) → G Γ x 4 (QV Γ x (qctX7_pass M)) M_467 200 [(3, vI ((M_458 7 2) + 2)), (2, vI 61), (1, vI 61), (0, aR Γ 7)] [] := by
                intro n_
                induction n_ using Nat.strongRecOn with
                | _ n_ ih_469 =>
                  intro M_467 f_470 hm_471
                  refine g_aload_n (n := 201) hx 3 (dq tX7_pass 101 rfl) rfl rfl ?_
                  refine g_getI (n := 204) hx glX7_22 (sX7_3 (by decide)) (dq tX7_pass 102 rfl) rfl (fun h_472l h_472u => ?_)
                  refine g_aload_n (n := 205) hx 3 (dq tX7_pass 103 rfl) rfl rfl ?_
                  refine g_getI (n := 208) hx glX7_15 (sX7_1 (by decide)) (dq tX7_pass 104 rfl) rfl (fun h_473l h_473u => ?_)
                  have e_474 : M_467 7 1 = M_458 7 1 := (f_470 7 1 (by omega))
                  refine g_icmp_ge (n := 211) (t := 258) hx (dq tX7_pass 105 rfl) (by decide) rfl (zrI h_472l h_472u (by decide) (by decide)) (zrI h_473l h_473u (by decide) (by decide)) (fun c_475 => ?_) (fun c_475 => ?_)
                  · exact g_vret hx hr (dq tX7_pass 131 rfl) (fun u_ v_ huv_ => (((((f_470 u_ v_ (by omega)).trans (m_459 u_ v_ (by omega))).trans (m_309 u_ v_ (by omega))).trans (f_7 u_ v_ (by omega))).trans (m_3 u_ v_ (by omega))))
                  · refine g_aload_n (n := 212) hx 3 (dq tX7_pass 106 rfl) rfl rfl ?_
                    refine g_getI (n := 215) hx glX7_22 (sX7_3 (by decide)) (dq tX7_pass 107 rfl) rfl (fun h_476l h_476u => ?_)
                    refine g_iload_n (n := 216) hx 0 (dq tX7_pass 108 rfl) rfl rfl ?_
                    refine g_icmp_ge (n := 219) (t := 258) hx (dq tX7_pass 109 rfl) (by decide) rfl (zrI h_476l h_476u (by decide) (by decide)) ⟨by omega, by omega⟩ (fun c_477 => ?_) (fun c_477 => ?_)
                    · exact g_vret hx hr (dq tX7_pass 131 rfl) (fun u_ v_ huv_ => (((((f_470 u_ v_ (by omega)).trans (m_459 u_ v_ (by omega))).trans (m_309 u_ v_ (by omega))).trans (f_7 u_ v_ (by omega))).trans (m_3 u_ v_ (by omega))))
                    · refine g_aload_n (n := 220) hx 3 (dq tX7_pass 110 rfl) rfl rfl ?_
                      refine g_getR (n := 223) hx glX7_9 (sX7_0 (by decide)) (dq tX7_pass 111 rfl) rfl ?_
                      refine g_aload_n (n := 224) hx 3 (dq tX7_pass 112 rfl) rfl rfl ?_
                      refine g_getI (n := 227) hx glX7_22 (sX7_3 (by decide)) (dq tX7_pass 113 rfl) rfl (fun h_478l h_478u => ?_)
                      refine g_iald (n := 228) (q := (M_467 7 3).toNat) hx (aX7_0 (b := 7) (by decide)) (dq tX7_pass 114 rfl) rfl (by omega) (by omega) (by omega) rfl (fun h_479l h_479u => ?_)
                      refine g_iload_n (n := 229) hx 2 (dq tX7_pass 115 rfl) rfl rfl ?_
                      refine g_icmp_lt (n := 232) (t := 258) hx (dq tX7_pass 116 rfl) (by decide) rfl (zrI h_479l h_479u (by decide) (by decide)) ⟨by decide, by decide⟩ (fun c_480 => ?_) (fun c_480 => ?_)
                      · exact g_vret hx hr (dq tX7_pass 131 rfl) (fun u_ v_ huv_ => (((((f_470 u_ v_ (by omega)).trans (m_459 u_ v_ (by omega))).trans (m_309 u_ v_ (by omega))).trans (f_7 u_ v_ (by omega))).trans (m_3 u_ v_ (by omega))))
                      · refine g_aload_n (n := 233) hx 3 (dq tX7_pass 117 rfl) rfl rfl ?_
                        refine g_getR (n := 236) hx glX7_9 (sX7_0 (by decide)) (dq tX7_pass 118 rfl) rfl ?_
                        refine g_aload_n (n := 237) hx 3 (dq tX7_pass 119 rfl) rfl rfl ?_
                        refine g_getI (n := 240) hx glX7_22 (sX7_3 (by decide)) (dq tX7_pass 120 rfl) rfl (fun h_481l h_481u => ?_)
                        refine g_iald (n := 241) (q := (M_467 7 3).toNat) hx (aX7_0 (b := 7) (by decide)) (dq tX7_pass 121 rfl) rfl (by omega) (by omega) (by omega) rfl (fun h_482l h_482u => ?_)
                        refine g_iload_n (n := 242) hx 1 (dq tX7_pass 122 rfl) rfl rfl ?_
                        refine g_icmp_gt (n := 245) (t := 258) hx (dq tX7_pass 123 rfl) (by decide) rfl (zrI h_482l h_482u (by decide) (by decide)) ⟨by decide, by decide⟩ (fun c_483 => ?_) (fun c_483 => ?_)
                        · exact g_vret hx hr (dq tX7_pass 131 rfl) (fun u_ v_ huv_ => (((((f_470 u_ v_ (by omega)).trans (m_459 u_ v_ (by omega))).trans (m_309 u_ v_ (by omega))).trans (f_7 u_ v_ (by omega))).trans (m_3 u_ v_ (by omega))))
                        · refine g_aload_n (n := 246) hx 3 (dq tX7_pass 124 rfl) rfl rfl ?_
                          refine g_dup (n := 247) hx (dq tX7_pass 125 rfl) rfl rfl ?_
                          refine g_getI (n := 250) hx glX7_22 (sX7_3 (by decide)) (dq tX7_pass 126 rfl) rfl (fun h_484l h_484u => ?_)
                          refine g_iconst (n := 251) hx (dq tX7_pass 127 rfl) rfl ?_
                          refine g_iadd (n := 252) hx (dq tX7_pass 128 rfl) rfl ?_
                          refine g_putI (n := 255) hx plX7_22 (sX7_3 (by decide)) (dq tX7_pass 129 rfl) rfl (by omega) (by omega) (fun M_485 m_486e m_486 => ?_)
                          refine g_goto (n := 200) hx (dq tX7_pass 130 rfl) (by decide) ?_
                          exact ih_469 _ (by omega) M_485 (fun u_ v_ huv_ => ((m_486 u_ v_ (by omega)).trans (f_470 u_ v_ (by omega)))) rfl
              exact L_468 _ M_458 (fun _ _ _ => rfl) rfl
            · refine g_aload_n (n := 125) hx 3 (dq tX7_pass 62 rfl) rfl rfl ?_
              refine g_getI (n := 128) hx glX7_31 (sX7_4 (by decide)) (dq tX7_pass 63 rfl) rfl (fun h_487l h_487u => ?_)
              refine g_bipush (n := 130) hx (dq tX7_pass 64 rfl) rfl (by decide) ?_
              refine g_icmp_ne (n := 133) (t := 149) hx (dq tX7_pass 65 rfl) (by decide) rfl (zrI h_487l h_487u (by decide) (by decide)) ⟨by decide, by decide⟩ (fun c_488 => ?_) (fun c_488 => ?_)
              · refine g_aload_n (n := 150) hx 3 (dq tX7_pass 76 rfl) rfl rfl ?_
                refine g_getI (n := 153) hx glX7_31 (sX7_4 (by decide)) (dq tX7_pass 77 rfl) rfl (fun h_489l h_489u => ?_)
                refine g_bipush (n := 155) hx (dq tX7_pass 78 rfl) rfl (by decide) ?_
                refine g_icmp_lt (n := 158) (t := 176) hx (dq tX7_pass 79 rfl) (by decide) rfl (zrI h_489l h_489u (by decide) (by decide)) ⟨by decide, by decide⟩ (fun c_490 => ?_) (fun c_490 => ?_)
                · refine g_aload_n (n := 177) hx 3 (dq tX7_pass 89 rfl) rfl rfl ?_
                  refine g_getI (n := 180) hx glX7_31 (sX7_4 (by decide)) (dq tX7_pass 90 rfl) rfl (fun h_491l h_491u => ?_)
                  refine g_bipush (n := 182) hx (dq tX7_pass 91 rfl) rfl (by decide) ?_
                  refine g_icmp_lt (n := 185) (t := 200) hx (dq tX7_pass 92 rfl) (by decide) rfl (zrI h_491l h_491u (by decide) (by decide)) ⟨by decide, by decide⟩ (fun c_492 => ?_) (fun c_492 => ?_)
                  · have L_493 : ∀ (n_ : Nat), ((400 - M_458 7 3).toNat = n_) → G Γ x 4 (QV Γ x (qctX7_pass M)) M_458 200 [(3, vI (M_458 7 1)), (2, vI 256), (1, vI 256), (0, aR Γ 7)] [] := by
                      intro n_
                      induction n_ using Nat.strongRecOn with
                      | _ n_ ih_494 =>
                        intro hm_496
                        refine g_aload_n (n := 201) hx 3 (dq tX7_pass 101 rfl) rfl rfl ?_
                        refine g_getI (n := 204) hx glX7_22 (sX7_3 (by decide)) (dq tX7_pass 102 rfl) rfl (fun h_497l h_497u => ?_)
                        refine g_aload_n (n := 205) hx 3 (dq tX7_pass 103 rfl) rfl rfl ?_
                        refine g_getI (n := 208) hx glX7_15 (sX7_1 (by decide)) (dq tX7_pass 104 rfl) rfl (fun h_498l h_498u => ?_)
                        refine g_icmp_ge (n := 211) (t := 258) hx (dq tX7_pass 105 rfl) (by decide) rfl (zrI h_497l h_497u (by decide) (by decide)) (zrI h_498l h_498u (by decide) (by decide)) (fun c_499 => ?_) (fun c_499 => ?_)
                        · exact g_vret hx hr (dq tX7_pass 131 rfl) (fun u_ v_ huv_ => ((((m_459 u_ v_ (by omega)).trans (m_309 u_ v_ (by omega))).trans (f_7 u_ v_ (by omega))).trans (m_3 u_ v_ (by omega))))
                        · refine g_aload_n (n := 212) hx 3 (dq tX7_pass 106 rfl) rfl rfl ?_
                          refine g_getI (n := 215) hx glX7_22 (sX7_3 (by decide)) (dq tX7_pass 107 rfl) rfl (fun h_500l h_500u => ?_)
                          refine g_iload_n (n := 216) hx 0 (dq tX7_pass 108 rfl) rfl rfl ?_
                          refine g_icmp_ge (n := 219) (t := 258) hx (dq tX7_pass 109 rfl) (by decide) rfl (zrI h_500l h_500u (by decide) (by decide)) (zrI h_460l h_460u (by decide) (by decide)) (fun c_501 => ?_) (fun c_501 => ?_)
                          · exact g_vret hx hr (dq tX7_pass 131 rfl) (fun u_ v_ huv_ => ((((m_459 u_ v_ (by omega)).trans (m_309 u_ v_ (by omega))).trans (f_7 u_ v_ (by omega))).trans (m_3 u_ v_ (by omega))))
                          · refine g_aload_n (n := 220) hx 3 (dq tX7_pass 110 rfl) rfl rfl ?_
                            refine g_getR (n := 223) hx glX7_9 (sX7_0 (by decide)) (dq tX7_pass 111 rfl) rfl ?_
                            refine g_aload_n (n := 224) hx 3 (dq tX7_pass 112 rfl) rfl rfl ?_
                            refine g_getI (n := 227) hx glX7_22 (sX7_3 (by decide)) (dq tX7_pass 113 rfl) rfl (fun h_502l h_502u => ?_)
                            refine g_iald (n := 228) (q := (M_458 7 3).toNat) hx (aX7_0 (b := 7) (by decide)) (dq tX7_pass 114 rfl) rfl (by omega) (by omega) (by omega) rfl (fun h_503l h_503u => ?_)
                            refine g_iload_n (n := 229) hx 2 (dq tX7_pass 115 rfl) rfl rfl ?_
                            refine g_icmp_lt (n := 232) (t := 258) hx (dq tX7_pass 116 rfl) (by decide) rfl (zrI h_503l h_503u (by decide) (by decide)) ⟨by decide, by decide⟩ (fun c_504 => ?_) (fun c_504 => ?_)
                            · exact g_vret hx hr (dq tX7_pass 131 rfl) (fun u_ v_ huv_ => ((((m_459 u_ v_ (by omega)).trans (m_309 u_ v_ (by omega))).trans (f_7 u_ v_ (by omega))).trans (m_3 u_ v_ (by omega))))
                            · omega
                    exact L_493 _ rfl
                  · refine g_aload_n (n := 186) hx 3 (dq tX7_pass 93 rfl) rfl rfl ?_
                    refine g_getI (n := 189) hx glX7_31 (sX7_4 (by decide)) (dq tX7_pass 94 rfl) rfl (fun h_505l h_505u => ?_)
                    refine g_bipush (n := 191) hx (dq tX7_pass 95 rfl) rfl (by decide) ?_
                    refine g_icmp_gt (n := 194) (t := 200) hx (dq tX7_pass 96 rfl) (by decide) rfl (zrI h_505l h_505u (by decide) (by decide)) ⟨by decide, by decide⟩ (fun c_506 => ?_) (fun c_506 => ?_)
                    · have L_507 : ∀ (n_ : Nat), ((400 - M_458 7 3).toNat = n_) → G Γ x 4 (QV Γ x (qctX7_pass M)) M_458 200 [(3, vI (M_458 7 1)), (2, vI 256), (1, vI 256), (0, aR Γ 7)] [] := by
                        intro n_
                        induction n_ using Nat.strongRecOn with
                        | _ n_ ih_508 =>
                          intro hm_510
                          refine g_aload_n (n := 201) hx 3 (dq tX7_pass 101 rfl) rfl rfl ?_
                          refine g_getI (n := 204) hx glX7_22 (sX7_3 (by decide)) (dq tX7_pass 102 rfl) rfl (fun h_511l h_511u => ?_)
                          refine g_aload_n (n := 205) hx 3 (dq tX7_pass 103 rfl) rfl rfl ?_
                          refine g_getI (n := 208) hx glX7_15 (sX7_1 (by decide)) (dq tX7_pass 104 rfl) rfl (fun h_512l h_512u => ?_)
                          refine g_icmp_ge (n := 211) (t := 258) hx (dq tX7_pass 105 rfl) (by decide) rfl (zrI h_511l h_511u (by decide) (by decide)) (zrI h_512l h_512u (by decide) (by decide)) (fun c_513 => ?_) (fun c_513 => ?_)
                          · exact g_vret hx hr (dq tX7_pass 131 rfl) (fun u_ v_ huv_ => ((((m_459 u_ v_ (by omega)).trans (m_309 u_ v_ (by omega))).trans (f_7 u_ v_ (by omega))).trans (m_3 u_ v_ (by omega))))
                          · refine g_aload_n (n := 212) hx 3 (dq tX7_pass 106 rfl) rfl rfl ?_
                            refine g_getI (n := 215) hx glX7_22 (sX7_3 (by decide)) (dq tX7_pass 107 rfl) rfl (fun h_514l h_514u => ?_)
                            refine g_iload_n (n := 216) hx 0 (dq tX7_pass 108 rfl) rfl rfl ?_
                            refine g_icmp_ge (n := 219) (t := 258) hx (dq tX7_pass 109 rfl) (by decide) rfl (zrI h_514l h_514u (by decide) (by decide)) (zrI h_460l h_460u (by decide) (by decide)) (fun c_515 => ?_) (fun c_515 => ?_)
                            · exact g_vret hx hr (dq tX7_pass 131 rfl) (fun u_ v_ huv_ => ((((m_459 u_ v_ (by omega)).trans (m_309 u_ v_ (by omega))).trans (f_7 u_ v_ (by omega))).trans (m_3 u_ v_ (by omega))))
                            · refine g_aload_n (n := 220) hx 3 (dq tX7_pass 110 rfl) rfl rfl ?_
                              refine g_getR (n := 223) hx glX7_9 (sX7_0 (by decide)) (dq tX7_pass 111 rfl) rfl ?_
                              refine g_aload_n (n := 224) hx 3 (dq tX7_pass 112 rfl) rfl rfl ?_
                              refine g_getI (n := 227) hx glX7_22 (sX7_3 (by decide)) (dq tX7_pass 113 rfl) rfl (fun h_516l h_516u => ?_)
                              refine g_iald (n := 228) (q := (M_458 7 3).toNat) hx (aX7_0 (b := 7) (by decide)) (dq tX7_pass 114 rfl) rfl (by omega) (by omega) (by omega) rfl (fun h_517l h_517u => ?_)
                              refine g_iload_n (n := 229) hx 2 (dq tX7_pass 115 rfl) rfl rfl ?_
                              refine g_icmp_lt (n := 232) (t := 258) hx (dq tX7_pass 116 rfl) (by decide) rfl (zrI h_517l h_517u (by decide) (by decide)) ⟨by decide, by decide⟩ (fun c_518 => ?_) (fun c_518 => ?_)
                              · exact g_vret hx hr (dq tX7_pass 131 rfl) (fun u_ v_ huv_ => ((((m_459 u_ v_ (by omega)).trans (m_309 u_ v_ (by omega))).trans (f_7 u_ v_ (by omega))).trans (m_3 u_ v_ (by omega))))
                              · omega
                      exact L_507 _ rfl
                    · refine g_bipush (n := 196) hx (dq tX7_pass 97 rfl) rfl (by decide) ?_
                      refine g_istore_n (n := 197) (lv' := [(1, vI 48), (3, vI (M_458 7 1)), (2, vI 256), (0, aR Γ 7)]) hx (dq tX7_pass 98 rfl) (by decide) rfl rfl ?_
                      refine g_bipush (n := 199) hx (dq tX7_pass 99 rfl) rfl (by decide) ?_
                      refine g_istore_n (n := 200) (lv' := [(2, vI 57), (1, vI 48), (3, vI (M_458 7 1)), (0, aR Γ 7)]) hx (dq tX7_pass 100 rfl) (by decide) rfl rfl ?_
                      have L_520 : ∀ (n_ : Nat) (M_519 : zM), (∀ u_ v_, (u_ ≠ 7 ∨ v_ ≠ 3) → M_519 u_ v_ = M_458 u_ v_) → ((400 - M_519 7 3).toNat = n_) → G Γ x 4 (QV Γ x (qctX7_pass M)) M_519 200 [(2, vI 57), (1, vI 48), (3, vI (M_458 7 1)), (0, aR Γ 7)] [] := by
                        intro n_
                        induction n_ using Nat.strongRecOn with
                        | _ n_ ih_521 =>
                          intro M_519 f_522 hm_523
                          refine g_aload_n (n := 201) hx 3 (dq tX7_pass 101 rfl) rfl rfl ?_
                          refine g_getI (n := 204) hx glX7_22 (sX7_3 (by decide)) (dq tX7_pass 102 rfl) rfl (fun h_524l h_524u => ?_)
                          refine g_aload_n (n := 205) hx 3 (dq tX7_pass 103 rfl) rfl rfl ?_
                          refine g_getI (n := 208) hx glX7_15 (sX7_1 (by decide)) (dq tX7_pass 104 rfl) rfl (fun h_525l h_525u => ?_)
                          have e_526 : M_519 7 1 = M_458 7 1 := (f_522 7 1 (by omega))
                          refine g_icmp_ge (n := 211) (t := 258) hx (dq tX7_pass 105 rfl) (by decide) rfl (zrI h_524l h_524u (by decide) (by decide)) (zrI h_525l h_525u (by decide) (by decide)) (fun c_527 => ?_) (fun c_527 => ?_)
                          · exact g_vret hx hr (dq tX7_pass 131 rfl) (fun u_ v_ huv_ => (((((f_522 u_ v_ (by omega)).trans (m_459 u_ v_ (by omega))).trans (m_309 u_ v_ (by omega))).trans (f_7 u_ v_ (by omega))).trans (m_3 u_ v_ (by omega))))
                          · refine g_aload_n (n := 212) hx 3 (dq tX7_pass 106 rfl) rfl rfl ?_
                            refine g_getI (n := 215) hx glX7_22 (sX7_3 (by decide)) (dq tX7_pass 107 rfl) rfl (fun h_528l h_528u => ?_)
                            refine g_iload_n (n := 216) hx 2 (dq tX7_pass 108 rfl) rfl rfl ?_
                            refine g_icmp_ge (n := 219) (t := 258) hx (dq tX7_pass 109 rfl) (by decide) rfl (zrI h_528l h_528u (by decide) (by decide)) (zrI h_460l h_460u (by decide) (by decide)) (fun c_529 => ?_) (fun c_529 => ?_)
                            · exact g_vret hx hr (dq tX7_pass 131 rfl) (fun u_ v_ huv_ => (((((f_522 u_ v_ (by omega)).trans (m_459 u_ v_ (by omega))).trans (m_309 u_ v_ (by omega))).trans (f_7 u_ v_ (by omega))).trans (m_3 u_ v_ (by omega))))
                            · refine g_aload_n (n := 220) hx 3 (dq tX7_pass 110 rfl) rfl rfl ?_
                              refine g_getR (n := 223) hx glX7_9 (sX7_0 (by decide)) (dq tX7_pass 111 rfl) rfl ?_
                              refine g_aload_n (n := 224) hx 3 (dq tX7_pass 112 rfl) rfl rfl ?_
                              refine g_getI (n := 227) hx glX7_22 (sX7_3 (by decide)) (dq tX7_pass 113 rfl) rfl (fun h_530l h_530u => ?_)
                              refine g_iald (n := 228) (q := (M_519 7 3).toNat) hx (aX7_0 (b := 7) (by decide)) (dq tX7_pass 114 rfl) rfl (by omega) (by omega) (by omega) rfl (fun h_531l h_531u => ?_)
                              refine g_iload_n (n := 229) hx 1 (dq tX7_pass 115 rfl) rfl rfl ?_
                              refine g_icmp_lt (n := 232) (t := 258) hx (dq tX7_pass 116 rfl) (by decide) rfl (zrI h_531l h_531u (by decide) (by decide)) ⟨by decide, by decide⟩ (fun c_532 => ?_) (fun c_532 => ?_)
                              · exact g_vret hx hr (dq tX7_pass 131 rfl) (fun u_ v_ huv_ => (((((f_522 u_ v_ (by omega)).trans (m_459 u_ v_ (by omega))).trans (m_309 u_ v_ (by omega))).trans (f_7 u_ v_ (by omega))).trans (m_3 u_ v_ (by omega))))
                              · refine g_aload_n (n := 233) hx 3 (dq tX7_pass 117 rfl) rfl rfl ?_
                                refine g_getR (n := 236) hx glX7_9 (sX7_0 (by decide)) (dq tX7_pass 118 rfl) rfl ?_
                                refine g_aload_n (n := 237) hx 3 (dq tX7_pass 119 rfl) rfl rfl ?_
                                refine g_getI (n := 240) hx glX7_22 (sX7_3 (by decide)) (dq tX7_pass 120 rfl) rfl (fun h_533l h_533u => ?_)
                                refine g_iald (n := 241) (q := (M_519 7 3).toNat) hx (aX7_0 (b := 7) (by decide)) (dq tX7_pass 121 rfl) rfl (by omega) (by omega) (by omega) rfl (fun h_534l h_534u => ?_)
                                refine g_iload_n (n := 242) hx 0 (dq tX7_pass 122 rfl) rfl rfl ?_
                                refine g_icmp_gt (n := 245) (t := 258) hx (dq tX7_pass 123 rfl) (by decide) rfl (zrI h_534l h_534u (by decide) (by decide)) ⟨by decide, by decide⟩ (fun c_535 => ?_) (fun c_535 => ?_)
                                · exact g_vret hx hr (dq tX7_pass 131 rfl) (fun u_ v_ huv_ => (((((f_522 u_ v_ (by omega)).trans (m_459 u_ v_ (by omega))).trans (m_309 u_ v_ (by omega))).trans (f_7 u_ v_ (by omega))).trans (m_3 u_ v_ (by omega))))
                                · refine g_aload_n (n := 246) hx 3 (dq tX7_pass 124 rfl) rfl rfl ?_
                                  refine g_dup (n := 247) hx (dq tX7_pass 125 rfl) rfl rfl ?_
                                  refine g_getI (n := 250) hx glX7_22 (sX7_3 (by decide)) (dq tX7_pass 126 rfl) rfl (fun h_536l h_536u => ?_)
                                  refine g_iconst (n := 251) hx (dq tX7_pass 127 rfl) rfl ?_
                                  refine g_iadd (n := 252) hx (dq tX7_pass 128 rfl) rfl ?_
                                  refine g_putI (n := 255) hx plX7_22 (sX7_3 (by decide)) (dq tX7_pass 129 rfl) rfl (by omega) (by omega) (fun M_537 m_538e m_538 => ?_)
                                  refine g_goto (n := 200) hx (dq tX7_pass 130 rfl) (by decide) ?_
                                  exact ih_521 _ (by omega) M_537 (fun u_ v_ huv_ => ((m_538 u_ v_ (by omega)).trans (f_522 u_ v_ (by omega)))) rfl
                      exact L_520 _ M_458 (fun _ _ _ => rfl) rfl
                · refine g_aload_n (n := 159) hx 3 (dq tX7_pass 80 rfl) rfl rfl ?_
                  refine g_getI (n := 162) hx glX7_31 (sX7_4 (by decide)) (dq tX7_pass 81 rfl) rfl (fun h_539l h_539u => ?_)
                  refine g_bipush (n := 164) hx (dq tX7_pass 82 rfl) rfl (by decide) ?_
                  refine g_icmp_gt (n := 167) (t := 176) hx (dq tX7_pass 83 rfl) (by decide) rfl (zrI h_539l h_539u (by decide) (by decide)) ⟨by decide, by decide⟩ (fun c_540 => ?_) (fun c_540 => ?_)
                  · refine g_aload_n (n := 177) hx 3 (dq tX7_pass 89 rfl) rfl rfl ?_
                    refine g_getI (n := 180) hx glX7_31 (sX7_4 (by decide)) (dq tX7_pass 90 rfl) rfl (fun h_541l h_541u => ?_)
                    refine g_bipush (n := 182) hx (dq tX7_pass 91 rfl) rfl (by decide) ?_
                    refine g_icmp_lt (n := 185) (t := 200) hx (dq tX7_pass 92 rfl) (by decide) rfl (zrI h_541l h_541u (by decide) (by decide)) ⟨by decide, by decide⟩ (fun c_542 => ?_) (fun c_542 => ?_)
                    · omega
                    · refine g_aload_n (n := 186) hx 3 (dq tX7_pass 93 rfl) rfl rfl ?_
                      refine g_getI (n := 189) hx glX7_31 (sX7_4 (by decide)) (dq tX7_pass 94 rfl) rfl (fun h_543l h_543u => ?_)
                      refine g_bipush (n := 191) hx (dq tX7_pass 95 rfl) rfl (by decide) ?_
                      refine g_icmp_gt (n := 194) (t := 200) hx (dq tX7_pass 96 rfl) (by decide) rfl (zrI h_543l h_543u (by decide) (by decide)) ⟨by decide, by decide⟩ (fun c_544 => ?_) (fun c_544 => ?_)
                      · have L_545 : ∀ (n_ : Nat), ((400 - M_458 7 3).toNat = n_) → G Γ x 4 (QV Γ x (qctX7_pass M)) M_458 200 [(3, vI (M_458 7 1)), (2, vI 256), (1, vI 256), (0, aR Γ 7)] [] := by
                          intro n_
                          induction n_ using Nat.strongRecOn with
                          | _ n_ ih_546 =>
                            intro hm_548
                            refine g_aload_n (n := 201) hx 3 (dq tX7_pass 101 rfl) rfl rfl ?_
                            refine g_getI (n := 204) hx glX7_22 (sX7_3 (by decide)) (dq tX7_pass 102 rfl) rfl (fun h_549l h_549u => ?_)
                            refine g_aload_n (n := 205) hx 3 (dq tX7_pass 103 rfl) rfl rfl ?_
                            refine g_getI (n := 208) hx glX7_15 (sX7_1 (by decide)) (dq tX7_pass 104 rfl) rfl (fun h_550l h_550u => ?_)
                            refine g_icmp_ge (n := 211) (t := 258) hx (dq tX7_pass 105 rfl) (by decide) rfl (zrI h_549l h_549u (by decide) (by decide)) (zrI h_550l h_550u (by decide) (by decide)) (fun c_551 => ?_) (fun c_551 => ?_)
                            · exact g_vret hx hr (dq tX7_pass 131 rfl) (fun u_ v_ huv_ => ((((m_459 u_ v_ (by omega)).trans (m_309 u_ v_ (by omega))).trans (f_7 u_ v_ (by omega))).trans (m_3 u_ v_ (by omega))))
                            · refine g_aload_n (n := 212) hx 3 (dq tX7_pass 106 rfl) rfl rfl ?_
                              refine g_getI (n := 215) hx glX7_22 (sX7_3 (by decide)) (dq tX7_pass 107 rfl) rfl (fun h_552l h_552u => ?_)
                              refine g_iload_n (n := 216) hx 0 (dq tX7_pass 108 rfl) rfl rfl ?_
                              refine g_icmp_ge (n := 219) (t := 258) hx (dq tX7_pass 109 rfl) (by decide) rfl (zrI h_552l h_552u (by decide) (by decide)) (zrI h_460l h_460u (by decide) (by decide)) (fun c_553 => ?_) (fun c_553 => ?_)
                              · exact g_vret hx hr (dq tX7_pass 131 rfl) (fun u_ v_ huv_ => ((((m_459 u_ v_ (by omega)).trans (m_309 u_ v_ (by omega))).trans (f_7 u_ v_ (by omega))).trans (m_3 u_ v_ (by omega))))
                              · refine g_aload_n (n := 220) hx 3 (dq tX7_pass 110 rfl) rfl rfl ?_
                                refine g_getR (n := 223) hx glX7_9 (sX7_0 (by decide)) (dq tX7_pass 111 rfl) rfl ?_
                                refine g_aload_n (n := 224) hx 3 (dq tX7_pass 112 rfl) rfl rfl ?_
                                refine g_getI (n := 227) hx glX7_22 (sX7_3 (by decide)) (dq tX7_pass 113 rfl) rfl (fun h_554l h_554u => ?_)
                                refine g_iald (n := 228) (q := (M_458 7 3).toNat) hx (aX7_0 (b := 7) (by decide)) (dq tX7_pass 114 rfl) rfl (by omega) (by omega) (by omega) rfl (fun h_555l h_555u => ?_)
                                refine g_iload_n (n := 229) hx 2 (dq tX7_pass 115 rfl) rfl rfl ?_
                                refine g_icmp_lt (n := 232) (t := 258) hx (dq tX7_pass 116 rfl) (by decide) rfl (zrI h_555l h_555u (by decide) (by decide)) ⟨by decide, by decide⟩ (fun c_556 => ?_) (fun c_556 => ?_)
                                · exact g_vret hx hr (dq tX7_pass 131 rfl) (fun u_ v_ huv_ => ((((m_459 u_ v_ (by omega)).trans (m_309 u_ v_ (by omega))).trans (f_7 u_ v_ (by omega))).trans (m_3 u_ v_ (by omega))))
                                · omega
                        exact L_545 _ rfl
                      · omega
                  · refine g_bipush (n := 169) hx (dq tX7_pass 84 rfl) rfl (by decide) ?_
                    refine g_istore_n (n := 170) (lv' := [(1, vI 97), (3, vI (M_458 7 1)), (2, vI 256), (0, aR Γ 7)]) hx (dq tX7_pass 85 rfl) (by decide) rfl rfl ?_
                    refine g_bipush (n := 172) hx (dq tX7_pass 86 rfl) rfl (by decide) ?_
                    refine g_istore_n (n := 173) (lv' := [(2, vI 122), (1, vI 97), (3, vI (M_458 7 1)), (0, aR Γ 7)]) hx (dq tX7_pass 87 rfl) (by decide) rfl rfl ?_
                    refine g_goto (n := 200) hx (dq tX7_pass 88 rfl) (by decide) ?_
                    have L_558 : ∀ (n_ : Nat) (M_557 : zM), (∀ u_ v_, (u_ ≠ 7 ∨ v_ ≠ 3) → M_557 u_ v_ = M_458 u_ v_) → ((400 - M_557 7 3).toNat = n_) → G Γ x 4 (QV Γ x (qctX7_pass M)) M_557 200 [(2, vI 122), (1, vI 97), (3, vI (M_458 7 1)), (0, aR Γ 7)] [] := by
                      intro n_
                      induction n_ using Nat.strongRecOn with
                      | _ n_ ih_559 =>
                        intro M_557 f_560 hm_561
                        refine g_aload_n (n := 201) hx 3 (dq tX7_pass 101 rfl) rfl rfl ?_
                        refine g_getI (n := 204) hx glX7_22 (sX7_3 (by decide)) (dq tX7_pass 102 rfl) rfl (fun h_562l h_562u => ?_)
                        refine g_aload_n (n := 205) hx 3 (dq tX7_pass 103 rfl) rfl rfl ?_
                        refine g_getI (n := 208) hx glX7_15 (sX7_1 (by decide)) (dq tX7_pass 104 rfl) rfl (fun h_563l h_563u => ?_)
                        have e_564 : M_557 7 1 = M_458 7 1 := (f_560 7 1 (by omega))
                        refine g_icmp_ge (n := 211) (t := 258) hx (dq tX7_pass 105 rfl) (by decide) rfl (zrI h_562l h_562u (by decide) (by decide)) (zrI h_563l h_563u (by decide) (by decide)) (fun c_565 => ?_) (fun c_565 => ?_)
                        · exact g_vret hx hr (dq tX7_pass 131 rfl) (fun u_ v_ huv_ => (((((f_560 u_ v_ (by omega)).trans (m_459 u_ v_ (by omega))).trans (m_309 u_ v_ (by omega))).trans (f_7 u_ v_ (by omega))).trans (m_3 u_ v_ (by omega))))
                        · refine g_aload_n (n := 212) hx 3 (dq tX7_pass 106 rfl) rfl rfl ?_
                          refine g_getI (n := 215) hx glX7_22 (sX7_3 (by decide)) (dq tX7_pass 107 rfl) rfl (fun h_566l h_566u => ?_)
                          refine g_iload_n (n := 216) hx 2 (dq tX7_pass 108 rfl) rfl rfl ?_
                          refine g_icmp_ge (n := 219) (t := 258) hx (dq tX7_pass 109 rfl) (by decide) rfl (zrI h_566l h_566u (by decide) (by decide)) (zrI h_460l h_460u (by decide) (by decide)) (fun c_567 => ?_) (fun c_567 => ?_)
                          · exact g_vret hx hr (dq tX7_pass 131 rfl) (fun u_ v_ huv_ => (((((f_560 u_ v_ (by omega)).trans (m_459 u_ v_ (by omega))).trans (m_309 u_ v_ (by omega))).trans (f_7 u_ v_ (by omega))).trans (m_3 u_ v_ (by omega))))
                          · refine g_aload_n (n := 220) hx 3 (dq tX7_pass 110 rfl) rfl rfl ?_
                            refine g_getR (n := 223) hx glX7_9 (sX7_0 (by decide)) (dq tX7_pass 111 rfl) rfl ?_
                            refine g_aload_n (n := 224) hx 3 (dq tX7_pass 112 rfl) rfl rfl ?_
                            refine g_getI (n := 227) hx glX7_22 (sX7_3 (by decide)) (dq tX7_pass 113 rfl) rfl (fun h_568l h_568u => ?_)
                            refine g_iald (n := 228) (q := (M_557 7 3).toNat) hx (aX7_0 (b := 7) (by decide)) (dq tX7_pass 114 rfl) rfl (by omega) (by omega) (by omega) rfl (fun h_569l h_569u => ?_)
                            refine g_iload_n (n := 229) hx 1 (dq tX7_pass 115 rfl) rfl rfl ?_
                            refine g_icmp_lt (n := 232) (t := 258) hx (dq tX7_pass 116 rfl) (by decide) rfl (zrI h_569l h_569u (by decide) (by decide)) ⟨by decide, by decide⟩ (fun c_570 => ?_) (fun c_570 => ?_)
                            · exact g_vret hx hr (dq tX7_pass 131 rfl) (fun u_ v_ huv_ => (((((f_560 u_ v_ (by omega)).trans (m_459 u_ v_ (by omega))).trans (m_309 u_ v_ (by omega))).trans (f_7 u_ v_ (by omega))).trans (m_3 u_ v_ (by omega))))
                            · refine g_aload_n (n := 233) hx 3 (dq tX7_pass 117 rfl) rfl rfl ?_
                              refine g_getR (n := 236) hx glX7_9 (sX7_0 (by decide)) (dq tX7_pass 118 rfl) rfl ?_
                              refine g_aload_n (n := 237) hx 3 (dq tX7_pass 119 rfl) rfl rfl ?_
                              refine g_getI (n := 240) hx glX7_22 (sX7_3 (by decide)) (dq tX7_pass 120 rfl) rfl (fun h_571l h_571u => ?_)
                              refine g_iald (n := 241) (q := (M_557 7 3).toNat) hx (aX7_0 (b := 7) (by decide)) (dq tX7_pass 121 rfl) rfl (by omega) (by omega) (by omega) rfl (fun h_572l h_572u => ?_)
                              refine g_iload_n (n := 242) hx 0 (dq tX7_pass 122 rfl) rfl rfl ?_
                              refine g_icmp_gt (n := 245) (t := 258) hx (dq tX7_pass 123 rfl) (by decide) rfl (zrI h_572l h_572u (by decide) (by decide)) ⟨by decide, by decide⟩ (fun c_573 => ?_) (fun c_573 => ?_)
                              · exact g_vret hx hr (dq tX7_pass 131 rfl) (fun u_ v_ huv_ => (((((f_560 u_ v_ (by omega)).trans (m_459 u_ v_ (by omega))).trans (m_309 u_ v_ (by omega))).trans (f_7 u_ v_ (by omega))).trans (m_3 u_ v_ (by omega))))
                              · refine g_aload_n (n := 246) hx 3 (dq tX7_pass 124 rfl) rfl rfl ?_
                                refine g_dup (n := 247) hx (dq tX7_pass 125 rfl) rfl rfl ?_
                                refine g_getI (n := 250) hx glX7_22 (sX7_3 (by decide)) (dq tX7_pass 126 rfl) rfl (fun h_574l h_574u => ?_)
                                refine g_iconst (n := 251) hx (dq tX7_pass 127 rfl) rfl ?_
                                refine g_iadd (n := 252) hx (dq tX7_pass 128 rfl) rfl ?_
                                refine g_putI (n := 255) hx plX7_22 (sX7_3 (by decide)) (dq tX7_pass 129 rfl) rfl (by omega) (by omega) (fun M_575 m_576e m_576 => ?_)
                                refine g_goto (n := 200) hx (dq tX7_pass 130 rfl) (by decide) ?_
                                exact ih_559 _ (by omega) M_575 (fun u_ v_ huv_ => ((m_576 u_ v_ (by omega)).trans (f_560 u_ v_ (by omega)))) rfl
                    exact L_558 _ M_458 (fun _ _ _ => rfl) rfl
              · refine g_bipush (n := 135) hx (dq tX7_pass 66 rfl) rfl (by decide) ?_
                refine g_istore_n (n := 136) (lv' := [(1, vI 61), (3, vI (M_458 7 1)), (2, vI 256), (0, aR Γ 7)]) hx (dq tX7_pass 67 rfl) (by decide) rfl rfl ?_
                refine g_bipush (n := 138) hx (dq tX7_pass 68 rfl) rfl (by decide) ?_
                refine g_istore_n (n := 139) (lv' := [(2, vI 61), (1, vI 61), (3, vI (M_458 7 1)), (0, aR Γ 7)]) hx (dq tX7_pass 69 rfl) (by decide) rfl rfl ?_
                refine g_aload_n (n := 140) hx 3 (dq tX7_pass 70 rfl) rfl rfl ?_
                refine g_getI (n := 143) hx glX7_28 (sX7_2 (by decide)) (dq tX7_pass 71 rfl) rfl (fun h_577l h_577u => ?_)
                have e_578 : M_458 7 2 = M_308 7 2 := (m_459 7 2 (by omega))
                refine g_iconst (n := 144) hx (dq tX7_pass 72 rfl) rfl ?_
                refine g_iadd (n := 145) hx (dq tX7_pass 73 rfl) rfl ?_
                refine g_istore_n (n := 146) (lv' := [(3, vI ((M_458 7 2) + 2)), (2, vI 61), (1, vI 61), (0, aR Γ 7)]) hx (dq tX7_pass 74 rfl) (by decide) rfl rfl ?_
                refine g_goto (n := 200) hx (dq tX7_pass 75 rfl) (by decide) ?_
                have L_580 : ∀ (n_ : Nat) (M_579 : zM), (∀ u_ v_, (u_ ≠ 7 ∨ v_ ≠ 3) → M_579 u_ v_ = M_458 u_ v_) → ((400 - M_579 7 3).toNat = n_) → G Γ x 4 (QV Γ x (qctX7_pass M)) M_579 200 [(3, vI ((M_458 7 2) + 2)), (2, vI 61), (1, vI 61), (0, aR Γ 7)] [] := by
                  intro n_
                  induction n_ using Nat.strongRecOn with
                  | _ n_ ih_581 =>
                    intro M_579 f_582 hm_583
                    refine g_aload_n (n := 201) hx 3 (dq tX7_pass 101 rfl) rfl rfl ?_
                    refine g_getI (n := 204) hx glX7_22 (sX7_3 (by decide)) (dq tX7_pass 102 rfl) rfl (fun h_584l h_584u => ?_)
                    refine g_aload_n (n := 205) hx 3 (dq tX7_pass 103 rfl) rfl rfl ?_
                    refine g_getI (n := 208) hx glX7_15 (sX7_1 (by decide)) (dq tX7_pass 104 rfl) rfl (fun h_585l h_585u => ?_)
                    have e_586 : M_579 7 1 = M_458 7 1 := (f_582 7 1 (by omega))
                    refine g_icmp_ge (n := 211) (t := 258) hx (dq tX7_pass 105 rfl) (by decide) rfl (zrI h_584l h_584u (by decide) (by decide)) (zrI h_585l h_585u (by decide) (by decide)) (fun c_587 => ?_) (fun c_587 => ?_)
                    · exact g_vret hx hr (dq tX7_pass 131 rfl) (fun u_ v_ huv_ => (((((f_582 u_ v_ (by omega)).trans (m_459 u_ v_ (by omega))).trans (m_309 u_ v_ (by omega))).trans (f_7 u_ v_ (by omega))).trans (m_3 u_ v_ (by omega))))
                    · refine g_aload_n (n := 212) hx 3 (dq tX7_pass 106 rfl) rfl rfl ?_
                      refine g_getI (n := 215) hx glX7_22 (sX7_3 (by decide)) (dq tX7_pass 107 rfl) rfl (fun h_588l h_588u => ?_)
                      refine g_iload_n (n := 216) hx 0 (dq tX7_pass 108 rfl) rfl rfl ?_
                      refine g_icmp_ge (n := 219) (t := 258) hx (dq tX7_pass 109 rfl) (by decide) rfl (zrI h_588l h_588u (by decide) (by decide)) ⟨by omega, by omega⟩ (fun c_589 => ?_) (fun c_589 => ?_)
                      · exact g_vret hx hr (dq tX7_pass 131 rfl) (fun u_ v_ huv_ => (((((f_582 u_ v_ (by omega)).trans (m_459 u_ v_ (by omega))).trans (m_309 u_ v_ (by omega))).trans (f_7 u_ v_ (by omega))).trans (m_3 u_ v_ (by omega))))
                      · refine g_aload_n (n := 220) hx 3 (dq tX7_pass 110 rfl) rfl rfl ?_
                        refine g_getR (n := 223) hx glX7_9 (sX7_0 (by decide)) (dq tX7_pass 111 rfl) rfl ?_
                        refine g_aload_n (n := 224) hx 3 (dq tX7_pass 112 rfl) rfl rfl ?_
                        refine g_getI (n := 227) hx glX7_22 (sX7_3 (by decide)) (dq tX7_pass 113 rfl) rfl (fun h_590l h_590u => ?_)
                        refine g_iald (n := 228) (q := (M_579 7 3).toNat) hx (aX7_0 (b := 7) (by decide)) (dq tX7_pass 114 rfl) rfl (by omega) (by omega) (by omega) rfl (fun h_591l h_591u => ?_)
                        refine g_iload_n (n := 229) hx 2 (dq tX7_pass 115 rfl) rfl rfl ?_
                        refine g_icmp_lt (n := 232) (t := 258) hx (dq tX7_pass 116 rfl) (by decide) rfl (zrI h_591l h_591u (by decide) (by decide)) ⟨by decide, by decide⟩ (fun c_592 => ?_) (fun c_592 => ?_)
                        · exact g_vret hx hr (dq tX7_pass 131 rfl) (fun u_ v_ huv_ => (((((f_582 u_ v_ (by omega)).trans (m_459 u_ v_ (by omega))).trans (m_309 u_ v_ (by omega))).trans (f_7 u_ v_ (by omega))).trans (m_3 u_ v_ (by omega))))
                        · refine g_aload_n (n := 233) hx 3 (dq tX7_pass 117 rfl) rfl rfl ?_
                          refine g_getR (n := 236) hx glX7_9 (sX7_0 (by decide)) (dq tX7_pass 118 rfl) rfl ?_
                          refine g_aload_n (n := 237) hx 3 (dq tX7_pass 119 rfl) rfl rfl ?_
                          refine g_getI (n := 240) hx glX7_22 (sX7_3 (by decide)) (dq tX7_pass 120 rfl) rfl (fun h_593l h_593u => ?_)
                          refine g_iald (n := 241) (q := (M_579 7 3).toNat) hx (aX7_0 (b := 7) (by decide)) (dq tX7_pass 121 rfl) rfl (by omega) (by omega) (by omega) rfl (fun h_594l h_594u => ?_)
                          refine g_iload_n (n := 242) hx 1 (dq tX7_pass 122 rfl) rfl rfl ?_
                          refine g_icmp_gt (n := 245) (t := 258) hx (dq tX7_pass 123 rfl) (by decide) rfl (zrI h_594l h_594u (by decide) (by decide)) ⟨by decide, by decide⟩ (fun c_595 => ?_) (fun c_595 => ?_)
                          · exact g_vret hx hr (dq tX7_pass 131 rfl) (fun u_ v_ huv_ => (((((f_582 u_ v_ (by omega)).trans (m_459 u_ v_ (by omega))).trans (m_309 u_ v_ (by omega))).trans (f_7 u_ v_ (by omega))).trans (m_3 u_ v_ (by omega))))
                          · refine g_aload_n (n := 246) hx 3 (dq tX7_pass 124 rfl) rfl rfl ?_
                            refine g_dup (n := 247) hx (dq tX7_pass 125 rfl) rfl rfl ?_
                            refine g_getI (n := 250) hx glX7_22 (sX7_3 (by decide)) (dq tX7_pass 126 rfl) rfl (fun h_596l h_596u => ?_)
                            refine g_iconst (n := 251) hx (dq tX7_pass 127 rfl) rfl ?_
                            refine g_iadd (n := 252) hx (dq tX7_pass 128 rfl) rfl ?_
                            refine g_putI (n := 255) hx plX7_22 (sX7_3 (by decide)) (dq tX7_pass 129 rfl) rfl (by omega) (by omega) (fun M_597 m_598e m_598 => ?_)
                            refine g_goto (n := 200) hx (dq tX7_pass 130 rfl) (by decide) ?_
                            exact ih_581 _ (by omega) M_597 (fun u_ v_ huv_ => ((m_598 u_ v_ (by omega)).trans (f_582 u_ v_ (by omega)))) rfl
                exact L_580 _ M_458 (fun _ _ _ => rfl) rfl
      · refine g_aload_n (n := 20) hx 0 (dq tX7_pass 9 rfl) rfl rfl ?_
        refine g_getR (n := 23) hx glX7_9 (sX7_0 (by decide)) (dq tX7_pass 10 rfl) rfl ?_
        refine g_aload_n (n := 24) hx 0 (dq tX7_pass 11 rfl) rfl rfl ?_
        refine g_getI (n := 27) hx glX7_28 (sX7_2 (by decide)) (dq tX7_pass 12 rfl) rfl (fun h_599l h_599u => ?_)
        refine g_iald (n := 28) (q := (M_4 7 2).toNat) hx (aX7_0 (b := 7) (by decide)) (dq tX7_pass 13 rfl) rfl (by omega) (by omega) (by omega) rfl (fun h_600l h_600u => ?_)
        refine g_bipush (n := 30) hx (dq tX7_pass 14 rfl) rfl (by decide) ?_
        refine g_icmp_ne (n := 33) (t := 46) hx (dq tX7_pass 15 rfl) (by decide) rfl (zrI h_600l h_600u (by decide) (by decide)) ⟨by decide, by decide⟩ (fun c_601 => ?_) (fun c_601 => ?_)
        · refine g_aload_n (n := 47) hx 0 (dq tX7_pass 23 rfl) rfl rfl ?_
          refine g_aload_n (n := 48) hx 0 (dq tX7_pass 24 rfl) rfl rfl ?_
          refine g_getI (n := 51) hx glX7_28 (sX7_2 (by decide)) (dq tX7_pass 25 rfl) rfl (fun h_602l h_602u => ?_)
          refine g_aload_n (n := 52) hx 0 (dq tX7_pass 26 rfl) rfl rfl ?_
          refine g_getI (n := 55) hx glX7_15 (sX7_1 (by decide)) (dq tX7_pass 27 rfl) rfl (fun h_603l h_603u => ?_)
          refine g_icmp_ge (n := 58) (t := 70) hx (dq tX7_pass 28 rfl) (by decide) rfl (zrI h_602l h_602u (by decide) (by decide)) (zrI h_603l h_603u (by decide) (by decide)) (fun c_604 => ?_) (fun c_604 => ?_)
          · refine g_iconst (n := 71) hx (dq tX7_pass 35 rfl) rfl ?_
            refine g_putI (n := 74) hx plX7_31 (sX7_4 (by decide)) (dq tX7_pass 36 rfl) rfl (by omega) (by omega) (fun M_605 m_606e m_606 => ?_)
            refine g_aload_n (n := 75) hx 0 (dq tX7_pass 37 rfl) rfl rfl ?_
            refine g_aload_n (n := 76) hx 0 (dq tX7_pass 38 rfl) rfl rfl ?_
            refine g_getI (n := 79) hx glX7_28 (sX7_2 (by decide)) (dq tX7_pass 39 rfl) rfl (fun h_607l h_607u => ?_)
            have e_608 : M_605 7 2 = M_4 7 2 := (m_606 7 2 (by omega))
            refine g_aload_n (n := 80) hx 0 (dq tX7_pass 40 rfl) rfl rfl ?_
            refine g_getI (n := 83) hx glX7_15 (sX7_1 (by decide)) (dq tX7_pass 41 rfl) rfl (fun h_609l h_609u => ?_)
            have e_610 : M_605 7 1 = M_4 7 1 := (m_606 7 1 (by omega))
            refine g_icmp_ge (n := 86) (t := 95) hx (dq tX7_pass 42 rfl) (by decide) rfl (zrI h_607l h_607u (by decide) (by decide)) (zrI h_609l h_609u (by decide) (by decide)) (fun c_611 => ?_) (fun c_611 => ?_)
            · refine g_aload_n (n := 96) hx 0 (dq tX7_pass 48 rfl) rfl rfl ?_
              refine g_getI (n := 99) hx glX7_15 (sX7_1 (by decide)) (dq tX7_pass 49 rfl) rfl (fun h_612l h_612u => ?_)
              refine g_putI (n := 102) hx plX7_22 (sX7_3 (by decide)) (dq tX7_pass 50 rfl) rfl (by omega) (by omega) (fun M_613 m_614e m_614 => ?_)
              refine g_sipush (n := 105) hx (dq tX7_pass 51 rfl) rfl (by decide) ?_
              refine g_istore_n (n := 106) (lv' := [(1, vI 256), (0, aR Γ 7)]) hx (dq tX7_pass 52 rfl) (by decide) rfl rfl ?_
              refine g_sipush (n := 109) hx (dq tX7_pass 53 rfl) rfl (by decide) ?_
              refine g_istore_n (n := 110) (lv' := [(2, vI 256), (1, vI 256), (0, aR Γ 7)]) hx (dq tX7_pass 54 rfl) (by decide) rfl rfl ?_
              refine g_aload_n (n := 111) hx 2 (dq tX7_pass 55 rfl) rfl rfl ?_
              refine g_getI (n := 114) hx glX7_15 (sX7_1 (by decide)) (dq tX7_pass 56 rfl) rfl (fun h_615l h_615u => ?_)
              have e_616 : M_613 7 1 = M_605 7 1 := (m_614 7 1 (by omega))
              refine g_istore_n (n := 115) (lv' := [(3, vI (M_613 7 1)), (2, vI 256), (1, vI 256), (0, aR Γ 7)]) hx (dq tX7_pass 57 rfl) (by decide) rfl rfl ?_
              refine g_aload_n (n := 116) hx 3 (dq tX7_pass 58 rfl) rfl rfl ?_
              refine g_getI (n := 119) hx glX7_31 (sX7_4 (by decide)) (dq tX7_pass 59 rfl) rfl (fun h_617l h_617u => ?_)
              have e_618 : M_613 7 4 = M_605 7 4 := (m_614 7 4 (by omega))
              refine g_bipush (n := 121) hx (dq tX7_pass 60 rfl) rfl (by decide) ?_
              refine g_icmp_eq (n := 124) (t := 133) hx (dq tX7_pass 61 rfl) (by decide) rfl (zrI h_617l h_617u (by decide) (by decide)) ⟨by decide, by decide⟩ (fun c_619 => ?_) (fun c_619 => ?_)
              · refine g_bipush (n := 135) hx (dq tX7_pass 66 rfl) rfl (by decide) ?_
                refine g_istore_n (n := 136) (lv' := [(1, vI 61), (3, vI (M_613 7 1)), (2, vI 256), (0, aR Γ 7)]) hx (dq tX7_pass 67 rfl) (by decide) rfl rfl ?_
                refine g_bipush (n := 138) hx (dq tX7_pass 68 rfl) rfl (by decide) ?_
                refine g_istore_n (n := 139) (lv' := [(2, vI 61), (1, vI 61), (3, vI (M_613 7 1)), (0, aR Γ 7)]) hx (dq tX7_pass 69 rfl) (by decide) rfl rfl ?_
                refine g_aload_n (n := 140) hx 3 (dq tX7_pass 70 rfl) rfl rfl ?_
                refine g_getI (n := 143) hx glX7_28 (sX7_2 (by decide)) (dq tX7_pass 71 rfl) rfl (fun h_620l h_620u => ?_)
                have e_621 : M_613 7 2 = M_605 7 2 := (m_614 7 2 (by omega))
                refine g_iconst (n := 144) hx (dq tX7_pass 72 rfl) rfl ?_
                refine g_iadd (n := 145) hx (dq tX7_pass 73 rfl) rfl ?_
                refine g_istore_n (n := 146) (lv' := [(3, vI ((M_613 7 2) + 2)), (2, vI 61), (1, vI 61), (0, aR Γ 7)]) hx (dq tX7_pass 74 rfl) (by decide) rfl rfl ?_
                refine g_goto (n := 200) hx (dq tX7_pass 75 rfl) (by decide) ?_
                have L_623 : ∀ (n_ : Nat) (M_622 : zM), (∀ u_ v_, (u_ ≠ 7 ∨ v_ ≠ 3) → M_622 u_ v_ = M_613 u_ v_) → ((400 - M_622 7 3).toNat = n_) → G Γ x 4 (QV Γ x (qctX7_pass M)) M_622 200 [(3, vI ((M_613 7 2) + 2)), (2, vI 61), (1, vI 61), (0, aR Γ 7)] [] := by
                  intro n_
                  induction n_ using Nat.strongRecOn with
                  | _ n_ ih_624 =>
                    intro M_622 f_625 hm_626
                    refine g_aload_n (n := 201) hx 3 (dq tX7_pass 101 rfl) rfl rfl ?_
                    refine g_getI (n := 204) hx glX7_22 (sX7_3 (by decide)) (dq tX7_pass 102 rfl) rfl (fun h_627l h_627u => ?_)
                    refine g_aload_n (n := 205) hx 3 (dq tX7_pass 103 rfl) rfl rfl ?_
                    refine g_getI (n := 208) hx glX7_15 (sX7_1 (by decide)) (dq tX7_pass 104 rfl) rfl (fun h_628l h_628u => ?_)
                    have e_629 : M_622 7 1 = M_613 7 1 := (f_625 7 1 (by omega))
                    refine g_icmp_ge (n := 211) (t := 258) hx (dq tX7_pass 105 rfl) (by decide) rfl (zrI h_627l h_627u (by decide) (by decide)) (zrI h_628l h_628u (by decide) (by decide)) (fun c_630 => ?_) (fun c_630 => ?_)
                    · exact g_vret hx hr (dq tX7_pass 131 rfl) (fun u_ v_ huv_ => (((((f_625 u_ v_ (by omega)).trans (m_614 u_ v_ (by omega))).trans (m_606 u_ v_ (by omega))).trans (f_7 u_ v_ (by omega))).trans (m_3 u_ v_ (by omega))))
                    · refine g_aload_n (n := 212) hx 3 (dq tX7_pass 106 rfl) rfl rfl ?_
                      refine g_getI (n := 215) hx glX7_22 (sX7_3 (by decide)) (dq tX7_pass 107 rfl) rfl (fun h_631l h_631u => ?_)
                      refine g_iload_n (n := 216) hx 0 (dq tX7_pass 108 rfl) rfl rfl ?_
                      refine g_icmp_ge (n := 219) (t := 258) hx (dq tX7_pass 109 rfl) (by decide) rfl (zrI h_631l h_631u (by decide) (by decide)) ⟨by omega, by omega⟩ (fun c_632 => ?_) (fun c_632 => ?_)
                      · exact g_vret hx hr (dq tX7_pass 131 rfl) (fun u_ v_ huv_ => (((((f_625 u_ v_ (by omega)).trans (m_614 u_ v_ (by omega))).trans (m_606 u_ v_ (by omega))).trans (f_7 u_ v_ (by omega))).trans (m_3 u_ v_ (by omega))))
                      · refine g_aload_n (n := 220) hx 3 (dq tX7_pass 110 rfl) rfl rfl ?_
                        refine g_getR (n := 223) hx glX7_9 (sX7_0 (by decide)) (dq tX7_pass 111 rfl) rfl ?_
                        refine g_aload_n (n := 224) hx 3 (dq tX7_pass 112 rfl) rfl rfl ?_
                        refine g_getI (n := 227) hx glX7_22 (sX7_3 (by decide)) (dq tX7_pass 113 rfl) rfl (fun h_633l h_633u => ?_)
                        refine g_iald (n := 228) (q := (M_622 7 3).toNat) hx (aX7_0 (b := 7) (by decide)) (dq tX7_pass 114 rfl) rfl (by omega) (by omega) (by omega) rfl (fun h_634l h_634u => ?_)
                        refine g_iload_n (n := 229) hx 2 (dq tX7_pass 115 rfl) rfl rfl ?_
                        refine g_icmp_lt (n := 232) (t := 258) hx (dq tX7_pass 116 rfl) (by decide) rfl (zrI h_634l h_634u (by decide) (by decide)) ⟨by decide, by decide⟩ (fun c_635 => ?_) (fun c_635 => ?_)
                        · exact g_vret hx hr (dq tX7_pass 131 rfl) (fun u_ v_ huv_ => (((((f_625 u_ v_ (by omega)).trans (m_614 u_ v_ (by omega))).trans (m_606 u_ v_ (by omega))).trans (f_7 u_ v_ (by omega))).trans (m_3 u_ v_ (by omega))))
                        · refine g_aload_n (n := 233) hx 3 (dq tX7_pass 117 rfl) rfl rfl ?_
                          refine g_getR (n := 236) hx glX7_9 (sX7_0 (by decide)) (dq tX7_pass 118 rfl) rfl ?_
                          refine g_aload_n (n := 237) hx 3 (dq tX7_pass 119 rfl) rfl rfl ?_
                          refine g_getI (n := 240) hx glX7_22 (sX7_3 (by decide)) (dq tX7_pass 120 rfl) rfl (fun h_636l h_636u => ?_)
                          refine g_iald (n := 241) (q := (M_622 7 3).toNat) hx (aX7_0 (b := 7) (by decide)) (dq tX7_pass 121 rfl) rfl (by omega) (by omega) (by omega) rfl (fun h_637l h_637u => ?_)
                          refine g_iload_n (n := 242) hx 1 (dq tX7_pass 122 rfl) rfl rfl ?_
                          refine g_icmp_gt (n := 245) (t := 258) hx (dq tX7_pass 123 rfl) (by decide) rfl (zrI h_637l h_637u (by decide) (by decide)) ⟨by decide, by decide⟩ (fun c_638 => ?_) (fun c_638 => ?_)
                          · exact g_vret hx hr (dq tX7_pass 131 rfl) (fun u_ v_ huv_ => (((((f_625 u_ v_ (by omega)).trans (m_614 u_ v_ (by omega))).trans (m_606 u_ v_ (by omega))).trans (f_7 u_ v_ (by omega))).trans (m_3 u_ v_ (by omega))))
                          · refine g_aload_n (n := 246) hx 3 (dq tX7_pass 124 rfl) rfl rfl ?_
                            refine g_dup (n := 247) hx (dq tX7_pass 125 rfl) rfl rfl ?_
                            refine g_getI (n := 250) hx glX7_22 (sX7_3 (by decide)) (dq tX7_pass 126 rfl) rfl (fun h_639l h_639u => ?_)
                            refine g_iconst (n := 251) hx (dq tX7_pass 127 rfl) rfl ?_
                            refine g_iadd (n := 252) hx (dq tX7_pass 128 rfl) rfl ?_
                            refine g_putI (n := 255) hx plX7_22 (sX7_3 (by decide)) (dq tX7_pass 129 rfl) rfl (by omega) (by omega) (fun M_640 m_641e m_641 => ?_)
                            refine g_goto (n := 200) hx (dq tX7_pass 130 rfl) (by decide) ?_
                            exact ih_624 _ (by omega) M_640 (fun u_ v_ huv_ => ((m_641 u_ v_ (by omega)).trans (f_625 u_ v_ (by omega)))) rfl
                exact L_623 _ M_613 (fun _ _ _ => rfl) rfl
              · refine g_aload_n (n := 125) hx 3 (dq tX7_pass 62 rfl) rfl rfl ?_
                refine g_getI (n := 128) hx glX7_31 (sX7_4 (by decide)) (dq tX7_pass 63 rfl) rfl (fun h_642l h_642u => ?_)
                refine g_bipush (n := 130) hx (dq tX7_pass 64 rfl) rfl (by decide) ?_
                refine g_icmp_ne (n := 133) (t := 149) hx (dq tX7_pass 65 rfl) (by decide) rfl (zrI h_642l h_642u (by decide) (by decide)) ⟨by decide, by decide⟩ (fun c_643 => ?_) (fun c_643 => ?_)
                · refine g_aload_n (n := 150) hx 3 (dq tX7_pass 76 rfl) rfl rfl ?_
                  refine g_getI (n := 153) hx glX7_31 (sX7_4 (by decide)) (dq tX7_pass 77 rfl) rfl (fun h_644l h_644u => ?_)
                  refine g_bipush (n := 155) hx (dq tX7_pass 78 rfl) rfl (by decide) ?_
                  refine g_icmp_lt (n := 158) (t := 176) hx (dq tX7_pass 79 rfl) (by decide) rfl (zrI h_644l h_644u (by decide) (by decide)) ⟨by decide, by decide⟩ (fun c_645 => ?_) (fun c_645 => ?_)
                  · refine g_aload_n (n := 177) hx 3 (dq tX7_pass 89 rfl) rfl rfl ?_
                    refine g_getI (n := 180) hx glX7_31 (sX7_4 (by decide)) (dq tX7_pass 90 rfl) rfl (fun h_646l h_646u => ?_)
                    refine g_bipush (n := 182) hx (dq tX7_pass 91 rfl) rfl (by decide) ?_
                    refine g_icmp_lt (n := 185) (t := 200) hx (dq tX7_pass 92 rfl) (by decide) rfl (zrI h_646l h_646u (by decide) (by decide)) ⟨by decide, by decide⟩ (fun c_647 => ?_) (fun c_647 => ?_)
                    · have L_648 : ∀ (n_ : Nat), ((400 - M_613 7 3).toNat = n_) → G Γ x 4 (QV Γ x (qctX7_pass M)) M_613 200 [(3, vI (M_613 7 1)), (2, vI 256), (1, vI 256), (0, aR Γ 7)] [] := by
                        intro n_
                        induction n_ using Nat.strongRecOn with
                        | _ n_ ih_649 =>
                          intro hm_651
                          refine g_aload_n (n := 201) hx 3 (dq tX7_pass 101 rfl) rfl rfl ?_
                          refine g_getI (n := 204) hx glX7_22 (sX7_3 (by decide)) (dq tX7_pass 102 rfl) rfl (fun h_652l h_652u => ?_)
                          refine g_aload_n (n := 205) hx 3 (dq tX7_pass 103 rfl) rfl rfl ?_
                          refine g_getI (n := 208) hx glX7_15 (sX7_1 (by decide)) (dq tX7_pass 104 rfl) rfl (fun h_653l h_653u => ?_)
                          refine g_icmp_ge (n := 211) (t := 258) hx (dq tX7_pass 105 rfl) (by decide) rfl (zrI h_652l h_652u (by decide) (by decide)) (zrI h_653l h_653u (by decide) (by decide)) (fun c_654 => ?_) (fun c_654 => ?_)
                          · exact g_vret hx hr (dq tX7_pass 131 rfl) (fun u_ v_ huv_ => ((((m_614 u_ v_ (by omega)).trans (m_606 u_ v_ (by omega))).trans (f_7 u_ v_ (by omega))).trans (m_3 u_ v_ (by omega))))
                          · refine g_aload_n (n := 212) hx 3 (dq tX7_pass 106 rfl) rfl rfl ?_
                            refine g_getI (n := 215) hx glX7_22 (sX7_3 (by decide)) (dq tX7_pass 107 rfl) rfl (fun h_655l h_655u => ?_)
                            refine g_iload_n (n := 216) hx 0 (dq tX7_pass 108 rfl) rfl rfl ?_
                            refine g_icmp_ge (n := 219) (t := 258) hx (dq tX7_pass 109 rfl) (by decide) rfl (zrI h_655l h_655u (by decide) (by decide)) (zrI h_615l h_615u (by decide) (by decide)) (fun c_656 => ?_) (fun c_656 => ?_)
                            · exact g_vret hx hr (dq tX7_pass 131 rfl) (fun u_ v_ huv_ => ((((m_614 u_ v_ (by omega)).trans (m_606 u_ v_ (by omega))).trans (f_7 u_ v_ (by omega))).trans (m_3 u_ v_ (by omega))))
                            · refine g_aload_n (n := 220) hx 3 (dq tX7_pass 110 rfl) rfl rfl ?_
                              refine g_getR (n := 223) hx glX7_9 (sX7_0 (by decide)) (dq tX7_pass 111 rfl) rfl ?_
                              refine g_aload_n (n := 224) hx 3 (dq tX7_pass 112 rfl) rfl rfl ?_
                              refine g_getI (n := 227) hx glX7_22 (sX7_3 (by decide)) (dq tX7_pass 113 rfl) rfl (fun h_657l h_657u => ?_)
                              refine g_iald (n := 228) (q := (M_613 7 3).toNat) hx (aX7_0 (b := 7) (by decide)) (dq tX7_pass 114 rfl) rfl (by omega) (by omega) (by omega) rfl (fun h_658l h_658u => ?_)
                              refine g_iload_n (n := 229) hx 2 (dq tX7_pass 115 rfl) rfl rfl ?_
                              refine g_icmp_lt (n := 232) (t := 258) hx (dq tX7_pass 116 rfl) (by decide) rfl (zrI h_658l h_658u (by decide) (by decide)) ⟨by decide, by decide⟩ (fun c_659 => ?_) (fun c_659 => ?_)
                              · exact g_vret hx hr (dq tX7_pass 131 rfl) (fun u_ v_ huv_ => ((((m_614 u_ v_ (by omega)).trans (m_606 u_ v_ (by omega))).trans (f_7 u_ v_ (by omega))).trans (m_3 u_ v_ (by omega))))
                              · omega
                      exact L_648 _ rfl
                    · refine g_aload_n (n := 186) hx 3 (dq tX7_pass 93 rfl) rfl rfl ?_
                      refine g_getI (n := 189) hx glX7_31 (sX7_4 (by decide)) (dq tX7_pass 94 rfl) rfl (fun h_660l h_660u => ?_)
                      refine g_bipush (n := 191) hx (dq tX7_pass 95 rfl) rfl (by decide) ?_
                      refine g_icmp_gt (n := 194) (t := 200) hx (dq tX7_pass 96 rfl) (by decide) rfl (zrI h_660l h_660u (by decide) (by decide)) ⟨by decide, by decide⟩ (fun c_661 => ?_) (fun c_661 => ?_)
                      · have L_662 : ∀ (n_ : Nat), ((400 - M_613 7 3).toNat = n_) → G Γ x 4 (QV Γ x (qctX7_pass M)) M_613 200 [(3, vI (M_613 7 1)), (2, vI 256), (1, vI 256), (0, aR Γ 7)] [] := by
                          intro n_
                          induction n_ using Nat.strongRecOn with
                          | _ n_ ih_663 =>
                            intro hm_665
                            refine g_aload_n (n := 201) hx 3 (dq tX7_pass 101 rfl) rfl rfl ?_
                            refine g_getI (n := 204) hx glX7_22 (sX7_3 (by decide)) (dq tX7_pass 102 rfl) rfl (fun h_666l h_666u => ?_)
                            refine g_aload_n (n := 205) hx 3 (dq tX7_pass 103 rfl) rfl rfl ?_
                            refine g_getI (n := 208) hx glX7_15 (sX7_1 (by decide)) (dq tX7_pass 104 rfl) rfl (fun h_667l h_667u => ?_)
                            refine g_icmp_ge (n := 211) (t := 258) hx (dq tX7_pass 105 rfl) (by decide) rfl (zrI h_666l h_666u (by decide) (by decide)) (zrI h_667l h_667u (by decide) (by decide)) (fun c_668 => ?_) (fun c_668 => ?_)
                            · exact g_vret hx hr (dq tX7_pass 131 rfl) (fun u_ v_ huv_ => ((((m_614 u_ v_ (by omega)).trans (m_606 u_ v_ (by omega))).trans (f_7 u_ v_ (by omega))).trans (m_3 u_ v_ (by omega))))
                            · refine g_aload_n (n := 212) hx 3 (dq tX7_pass 106 rfl) rfl rfl ?_
                              refine g_getI (n := 215) hx glX7_22 (sX7_3 (by decide)) (dq tX7_pass 107 rfl) rfl (fun h_669l h_669u => ?_)
                              refine g_iload_n (n := 216) hx 0 (dq tX7_pass 108 rfl) rfl rfl ?_
                              refine g_icmp_ge (n := 219) (t := 258) hx (dq tX7_pass 109 rfl) (by decide) rfl (zrI h_669l h_669u (by decide) (by decide)) (zrI h_615l h_615u (by decide) (by decide)) (fun c_670 => ?_) (fun c_670 => ?_)
                              · exact g_vret hx hr (dq tX7_pass 131 rfl) (fun u_ v_ huv_ => ((((m_614 u_ v_ (by omega)).trans (m_606 u_ v_ (by omega))).trans (f_7 u_ v_ (by omega))).trans (m_3 u_ v_ (by omega))))
                              · refine g_aload_n (n := 220) hx 3 (dq tX7_pass 110 rfl) rfl rfl ?_
                                refine g_getR (n := 223) hx glX7_9 (sX7_0 (by decide)) (dq tX7_pass 111 rfl) rfl ?_
                                refine g_aload_n (n := 224) hx 3 (dq tX7_pass 112 rfl) rfl rfl ?_
                                refine g_getI (n := 227) hx glX7_22 (sX7_3 (by decide)) (dq tX7_pass 113 rfl) rfl (fun h_671l h_671u => ?_)
                                refine g_iald (n := 228) (q := (M_613 7 3).toNat) hx (aX7_0 (b := 7) (by decide)) (dq tX7_pass 114 rfl) rfl (by omega) (by omega) (by omega) rfl (fun h_672l h_672u => ?_)
                                refine g_iload_n (n := 229) hx 2 (dq tX7_pass 115 rfl) rfl rfl ?_
                                refine g_icmp_lt (n := 232) (t := 258) hx (dq tX7_pass 116 rfl) (by decide) rfl (zrI h_672l h_672u (by decide) (by decide)) ⟨by decide, by decide⟩ (fun c_673 => ?_) (fun c_673 => ?_)
                                · exact g_vret hx hr (dq tX7_pass 131 rfl) (fun u_ v_ huv_ => ((((m_614 u_ v_ (by omega)).trans (m_606 u_ v_ (by omega))).trans (f_7 u_ v_ (by omega))).trans (m_3 u_ v_ (by omega))))
                                · omega
                        exact L_662 _ rfl
                      · refine g_bipush (n := 196) hx (dq tX7_pass 97 rfl) rfl (by decide) ?_
                        refine g_istore_n (n := 197) (lv' := [(1, vI 48), (3, vI (M_613 7 1)), (2, vI 256), (0, aR Γ 7)]) hx (dq tX7_pass 98 rfl) (by decide) rfl rfl ?_
                        refine g_bipush (n := 199) hx (dq tX7_pass 99 rfl) rfl (by decide) ?_
                        refine g_istore_n (n := 200) (lv' := [(2, vI 57), (1, vI 48), (3, vI (M_613 7 1)), (0, aR Γ 7)]) hx (dq tX7_pass 100 rfl) (by decide) rfl rfl ?_
                        have L_675 : ∀ (n_ : Nat) (M_674 : zM), (∀ u_ v_, (u_ ≠ 7 ∨ v_ ≠ 3) → M_674 u_ v_ = M_613 u_ v_) → ((400 - M_674 7 3).toNat = n_) → G Γ x 4 (QV Γ x (qctX7_pass M)) M_674 200 [(2, vI 57), (1, vI 48), (3, vI (M_613 7 1)), (0, aR Γ 7)] [] := by
                          intro n_
                          induction n_ using Nat.strongRecOn with
                          | _ n_ ih_676 =>
                            intro M_674 f_677 hm_678
                            refine g_aload_n (n := 201) hx 3 (dq tX7_pass 101 rfl) rfl rfl ?_
                            refine g_getI (n := 204) hx glX7_22 (sX7_3 (by decide)) (dq tX7_pass 102 rfl) rfl (fun h_679l h_679u => ?_)
                            refine g_aload_n (n := 205) hx 3 (dq tX7_pass 103 rfl) rfl rfl ?_
                            refine g_getI (n := 208) hx glX7_15 (sX7_1 (by decide)) (dq tX7_pass 104 rfl) rfl (fun h_680l h_680u => ?_)
                            have e_681 : M_674 7 1 = M_613 7 1 := (f_677 7 1 (by omega))
                            refine g_icmp_ge (n := 211) (t := 258) hx (dq tX7_pass 105 rfl) (by decide) rfl (zrI h_679l h_679u (by decide) (by decide)) (zrI h_680l h_680u (by decide) (by decide)) (fun c_682 => ?_) (fun c_682 => ?_)
                            · exact g_vret hx hr (dq tX7_pass 131 rfl) (fun u_ v_ huv_ => (((((f_677 u_ v_ (by omega)).trans (m_614 u_ v_ (by omega))).trans (m_606 u_ v_ (by omega))).trans (f_7 u_ v_ (by omega))).trans (m_3 u_ v_ (by omega))))
                            · refine g_aload_n (n := 212) hx 3 (dq tX7_pass 106 rfl) rfl rfl ?_
                              refine g_getI (n := 215) hx glX7_22 (sX7_3 (by decide)) (dq tX7_pass 107 rfl) rfl (fun h_683l h_683u => ?_)
                              refine g_iload_n (n := 216) hx 2 (dq tX7_pass 108 rfl) rfl rfl ?_
                              refine g_icmp_ge (n := 219) (t := 258) hx (dq tX7_pass 109 rfl) (by decide) rfl (zrI h_683l h_683u (by decide) (by decide)) (zrI h_615l h_615u (by decide) (by decide)) (fun c_684 => ?_) (fun c_684 => ?_)
                              · exact g_vret hx hr (dq tX7_pass 131 rfl) (fun u_ v_ huv_ => (((((f_677 u_ v_ (by omega)).trans (m_614 u_ v_ (by omega))).trans (m_606 u_ v_ (by omega))).trans (f_7 u_ v_ (by omega))).trans (m_3 u_ v_ (by omega))))
                              · refine g_aload_n (n := 220) hx 3 (dq tX7_pass 110 rfl) rfl rfl ?_
                                refine g_getR (n := 223) hx glX7_9 (sX7_0 (by decide)) (dq tX7_pass 111 rfl) rfl ?_
                                refine g_aload_n (n := 224) hx 3 (dq tX7_pass 112 rfl) rfl rfl ?_
                                refine g_getI (n := 227) hx glX7_22 (sX7_3 (by decide)) (dq tX7_pass 113 rfl) rfl (fun h_685l h_685u => ?_)
                                refine g_iald (n := 228) (q := (M_674 7 3).toNat) hx (aX7_0 (b := 7) (by decide)) (dq tX7_pass 114 rfl) rfl (by omega) (by omega) (by omega) rfl (fun h_686l h_686u => ?_)
                                refine g_iload_n (n := 229) hx 1 (dq tX7_pass 115 rfl) rfl rfl ?_
                                refine g_icmp_lt (n := 232) (t := 258) hx (dq tX7_pass 116 rfl) (by decide) rfl (zrI h_686l h_686u (by decide) (by decide)) ⟨by decide, by decide⟩ (fun c_687 => ?_) (fun c_687 => ?_)
                                · exact g_vret hx hr (dq tX7_pass 131 rfl) (fun u_ v_ huv_ => (((((f_677 u_ v_ (by omega)).trans (m_614 u_ v_ (by omega))).trans (m_606 u_ v_ (by omega))).trans (f_7 u_ v_ (by omega))).trans (m_3 u_ v_ (by omega))))
                                · refine g_aload_n (n := 233) hx 3 (dq tX7_pass 117 rfl) rfl rfl ?_
                                  refine g_getR (n := 236) hx glX7_9 (sX7_0 (by decide)) (dq tX7_pass 118 rfl) rfl ?_
                                  refine g_aload_n (n := 237) hx 3 (dq tX7_pass 119 rfl) rfl rfl ?_
                                  refine g_getI (n := 240) hx glX7_22 (sX7_3 (by decide)) (dq tX7_pass 120 rfl) rfl (fun h_688l h_688u => ?_)
                                  refine g_iald (n := 241) (q := (M_674 7 3).toNat) hx (aX7_0 (b := 7) (by decide)) (dq tX7_pass 121 rfl) rfl (by omega) (by omega) (by omega) rfl (fun h_689l h_689u => ?_)
                                  refine g_iload_n (n := 242) hx 0 (dq tX7_pass 122 rfl) rfl rfl ?_
                                  refine g_icmp_gt (n := 245) (t := 258) hx (dq tX7_pass 123 rfl) (by decide) rfl (zrI h_689l h_689u (by decide) (by decide)) ⟨by decide, by decide⟩ (fun c_690 => ?_) (fun c_690 => ?_)
                                  · exact g_vret hx hr (dq tX7_pass 131 rfl) (fun u_ v_ huv_ => (((((f_677 u_ v_ (by omega)).trans (m_614 u_ v_ (by omega))).trans (m_606 u_ v_ (by omega))).trans (f_7 u_ v_ (by omega))).trans (m_3 u_ v_ (by omega))))
                                  · refine g_aload_n (n := 246) hx 3 (dq tX7_pass 124 rfl) rfl rfl ?_
                                    refine g_dup (n := 247) hx (dq tX7_pass 125 rfl) rfl rfl ?_
                                    refine g_getI (n := 250) hx glX7_22 (sX7_3 (by decide)) (dq tX7_pass 126 rfl) rfl (fun h_691l h_691u => ?_)
                                    refine g_iconst (n := 251) hx (dq tX7_pass 127 rfl) rfl ?_
                                    refine g_iadd (n := 252) hx (dq tX7_pass 128 rfl) rfl ?_
                                    refine g_putI (n := 255) hx plX7_22 (sX7_3 (by decide)) (dq tX7_pass 129 rfl) rfl (by omega) (by omega) (fun M_692 m_693e m_693 => ?_)
                                    refine g_goto (n := 200) hx (dq tX7_pass 130 rfl) (by decide) ?_
                                    exact ih_676 _ (by omega) M_692 (fun u_ v_ huv_ => ((m_693 u_ v_ (by omega)).trans (f_677 u_ v_ (by omega)))) rfl
                        exact L_675 _ M_613 (fun _ _ _ => rfl) rfl
                  · refine g_aload_n (n := 159) hx 3 (dq tX7_pass 80 rfl) rfl rfl ?_
                    refine g_getI (n := 162) hx glX7_31 (sX7_4 (by decide)) (dq tX7_pass 81 rfl) rfl (fun h_694l h_694u => ?_)
                    refine g_bipush (n := 164) hx (dq tX7_pass 82 rfl) rfl (by decide) ?_
                    refine g_icmp_gt (n := 167) (t := 176) hx (dq tX7_pass 83 rfl) (by decide) rfl (zrI h_694l h_694u (by decide) (by decide)) ⟨by decide, by decide⟩ (fun c_695 => ?_) (fun c_695 => ?_)
                    · refine g_aload_n (n := 177) hx 3 (dq tX7_pass 89 rfl) rfl rfl ?_
                      refine g_getI (n := 180) hx glX7_31 (sX7_4 (by decide)) (dq tX7_pass 90 rfl) rfl (fun h_696l h_696u => ?_)
                      refine g_bipush (n := 182) hx (dq tX7_pass 91 rfl) rfl (by decide) ?_
                      refine g_icmp_lt (n := 185) (t := 200) hx (dq tX7_pass 92 rfl) (by decide) rfl (zrI h_696l h_696u (by decide) (by decide)) ⟨by decide, by decide⟩ (fun c_697 => ?_) (fun c_697 => ?_)
                      · omega
                      · refine g_aload_n (n := 186) hx 3 (dq tX7_pass 93 rfl) rfl rfl ?_
                        refine g_getI (n := 189) hx glX7_31 (sX7_4 (by decide)) (dq tX7_pass 94 rfl) rfl (fun h_698l h_698u => ?_)
                        refine g_bipush (n := 191) hx (dq tX7_pass 95 rfl) rfl (by decide) ?_
                        refine g_icmp_gt (n := 194) (t := 200) hx (dq tX7_pass 96 rfl) (by decide) rfl (zrI h_698l h_698u (by decide) (by decide)) ⟨by decide, by decide⟩ (fun c_699 => ?_) (fun c_699 => ?_)
                        · have L_700 : ∀ (n_ : Nat), ((400 - M_613 7 3).toNat = n_) → G Γ x 4 (QV Γ x (qctX7_pass M)) M_613 200 [(3, vI (M_613 7 1)), (2, vI 256), (1, vI 256), (0, aR Γ 7)] [] := by
                            intro n_
                            induction n_ using Nat.strongRecOn with
                            | _ n_ ih_701 =>
                              intro hm_703
                              refine g_aload_n (n := 201) hx 3 (dq tX7_pass 101 rfl) rfl rfl ?_
                              refine g_getI (n := 204) hx glX7_22 (sX7_3 (by decide)) (dq tX7_pass 102 rfl) rfl (fun h_704l h_704u => ?_)
                              refine g_aload_n (n := 205) hx 3 (dq tX7_pass 103 rfl) rfl rfl ?_
                              refine g_getI (n := 208) hx glX7_15 (sX7_1 (by decide)) (dq tX7_pass 104 rfl) rfl (fun h_705l h_705u => ?_)
                              refine g_icmp_ge (n := 211) (t := 258) hx (dq tX7_pass 105 rfl) (by decide) rfl (zrI h_704l h_704u (by decide) (by decide)) (zrI h_705l h_705u (by decide) (by decide)) (fun c_706 => ?_) (fun c_706 => ?_)
                              · exact g_vret hx hr (dq tX7_pass 131 rfl) (fun u_ v_ huv_ => ((((m_614 u_ v_ (by omega)).trans (m_606 u_ v_ (by omega))).trans (f_7 u_ v_ (by omega))).trans (m_3 u_ v_ (by omega))))
                              · refine g_aload_n (n := 212) hx 3 (dq tX7_pass 106 rfl) rfl rfl ?_
                                refine g_getI (n := 215) hx glX7_22 (sX7_3 (by decide)) (dq tX7_pass 107 rfl) rfl (fun h_707l h_707u => ?_)
                                refine g_iload_n (n := 216) hx 0 (dq tX7_pass 108 rfl) rfl rfl ?_
                                refine g_icmp_ge (n := 219) (t := 258) hx (dq tX7_pass 109 rfl) (by decide) rfl (zrI h_707l h_707u (by decide) (by decide)) (zrI h_615l h_615u (by decide) (by decide)) (fun c_708 => ?_) (fun c_708 => ?_)
                                · exact g_vret hx hr (dq tX7_pass 131 rfl) (fun u_ v_ huv_ => ((((m_614 u_ v_ (by omega)).trans (m_606 u_ v_ (by omega))).trans (f_7 u_ v_ (by omega))).trans (m_3 u_ v_ (by omega))))
                                · refine g_aload_n (n := 220) hx 3 (dq tX7_pass 110 rfl) rfl rfl ?_
                                  refine g_getR (n := 223) hx glX7_9 (sX7_0 (by decide)) (dq tX7_pass 111 rfl) rfl ?_
                                  refine g_aload_n (n := 224) hx 3 (dq tX7_pass 112 rfl) rfl rfl ?_
                                  refine g_getI (n := 227) hx glX7_22 (sX7_3 (by decide)) (dq tX7_pass 113 rfl) rfl (fun h_709l h_709u => ?_)
                                  refine g_iald (n := 228) (q := (M_613 7 3).toNat) hx (aX7_0 (b := 7) (by decide)) (dq tX7_pass 114 rfl) rfl (by omega) (by omega) (by omega) rfl (fun h_710l h_710u => ?_)
                                  refine g_iload_n (n := 229) hx 2 (dq tX7_pass 115 rfl) rfl rfl ?_
                                  refine g_icmp_lt (n := 232) (t := 258) hx (dq tX7_pass 116 rfl) (by decide) rfl (zrI h_710l h_710u (by decide) (by decide)) ⟨by decide, by decide⟩ (fun c_711 => ?_) (fun c_711 => ?_)
                                  · exact g_vret hx hr (dq tX7_pass 131 rfl) (fun u_ v_ huv_ => ((((m_614 u_ v_ (by omega)).trans (m_606 u_ v_ (by omega))).trans (f_7 u_ v_ (by omega))).trans (m_3 u_ v_ (by omega))))
                                  · omega
                          exact L_700 _ rfl
                        · omega
                    · refine g_bipush (n := 169) hx (dq tX7_pass 84 rfl) rfl (by decide) ?_
                      refine g_istore_n (n := 170) (lv' := [(1, vI 97), (3, vI (M_613 7 1)), (2, vI 256), (0, aR Γ 7)]) hx (dq tX7_pass 85 rfl) (by decide) rfl rfl ?_
                      refine g_bipush (n := 172) hx (dq tX7_pass 86 rfl) rfl (by decide) ?_
                      refine g_istore_n (n := 173) (lv' := [(2, vI 122), (1, vI 97), (3, vI (M_613 7 1)), (0, aR Γ 7)]) hx (dq tX7_pass 87 rfl) (by decide) rfl rfl ?_
                      refine g_goto (n := 200) hx (dq tX7_pass 88 rfl) (by decide) ?_
                      have L_713 : ∀ (n_ : Nat) (M_712 : zM), (∀ u_ v_, (u_ ≠ 7 ∨ v_ ≠ 3) → M_712 u_ v_ = M_613 u_ v_) → ((400 - M_712 7 3).toNat = n_) → G Γ x 4 (QV Γ x (qctX7_pass M)) M_712 200 [(2, vI 122), (1, vI 97), (3, vI (M_613 7 1)), (0, aR Γ 7)] [] := by
                        intro n_
                        induction n_ using Nat.strongRecOn with
                        | _ n_ ih_714 =>
                          intro M_712 f_715 hm_716
                          refine g_aload_n (n := 201) hx 3 (dq tX7_pass 101 rfl) rfl rfl ?_
                          refine g_getI (n := 204) hx glX7_22 (sX7_3 (by decide)) (dq tX7_pass 102 rfl) rfl (fun h_717l h_717u => ?_)
                          refine g_aload_n (n := 205) hx 3 (dq tX7_pass 103 rfl) rfl rfl ?_
                          refine g_getI (n := 208) hx glX7_15 (sX7_1 (by decide)) (dq tX7_pass 104 rfl) rfl (fun h_718l h_718u => ?_)
                          have e_719 : M_712 7 1 = M_613 7 1 := (f_715 7 1 (by omega))
                          refine g_icmp_ge (n := 211) (t := 258) hx (dq tX7_pass 105 rfl) (by decide) rfl (zrI h_717l h_717u (by decide) (by decide)) (zrI h_718l h_718u (by decide) (by decide)) (fun c_720 => ?_) (fun c_720 => ?_)
                          · exact g_vret hx hr (dq tX7_pass 131 rfl) (fun u_ v_ huv_ => (((((f_715 u_ v_ (by omega)).trans (m_614 u_ v_ (by omega))).trans (m_606 u_ v_ (by omega))).trans (f_7 u_ v_ (by omega))).trans (m_3 u_ v_ (by omega))))
                          · refine g_aload_n (n := 212) hx 3 (dq tX7_pass 106 rfl) rfl rfl ?_
                            refine g_getI (n := 215) hx glX7_22 (sX7_3 (by decide)) (dq tX7_pass 107 rfl) rfl (fun h_721l h_721u => ?_)
                            refine g_iload_n (n := 216) hx 2 (dq tX7_pass 108 rfl) rfl rfl ?_
                            refine g_icmp_ge (n := 219) (t := 258) hx (dq tX7_pass 109 rfl) (by decide) rfl (zrI h_721l h_721u (by decide) (by decide)) (zrI h_615l h_615u (by decide) (by decide)) (fun c_722 => ?_) (fun c_722 => ?_)
                            · exact g_vret hx hr (dq tX7_pass 131 rfl) (fun u_ v_ huv_ => (((((f_715 u_ v_ (by omega)).trans (m_614 u_ v_ (by omega))).trans (m_606 u_ v_ (by omega))).trans (f_7 u_ v_ (by omega))).trans (m_3 u_ v_ (by omega))))
                            · refine g_aload_n (n := 220) hx 3 (dq tX7_pass 110 rfl) rfl rfl ?_
                              refine g_getR (n := 223) hx glX7_9 (sX7_0 (by decide)) (dq tX7_pass 111 rfl) rfl ?_
                              refine g_aload_n (n := 224) hx 3 (dq tX7_pass 112 rfl) rfl rfl ?_
                              refine g_getI (n := 227) hx glX7_22 (sX7_3 (by decide)) (dq tX7_pass 113 rfl) rfl (fun h_723l h_723u => ?_)
                              refine g_iald (n := 228) (q := (M_712 7 3).toNat) hx (aX7_0 (b := 7) (by decide)) (dq tX7_pass 114 rfl) rfl (by omega) (by omega) (by omega) rfl (fun h_724l h_724u => ?_)
                              refine g_iload_n (n := 229) hx 1 (dq tX7_pass 115 rfl) rfl rfl ?_
                              refine g_icmp_lt (n := 232) (t := 258) hx (dq tX7_pass 116 rfl) (by decide) rfl (zrI h_724l h_724u (by decide) (by decide)) ⟨by decide, by decide⟩ (fun c_725 => ?_) (fun c_725 => ?_)
                              · exact g_vret hx hr (dq tX7_pass 131 rfl) (fun u_ v_ huv_ => (((((f_715 u_ v_ (by omega)).trans (m_614 u_ v_ (by omega))).trans (m_606 u_ v_ (by omega))).trans (f_7 u_ v_ (by omega))).trans (m_3 u_ v_ (by omega))))
                              · refine g_aload_n (n := 233) hx 3 (dq tX7_pass 117 rfl) rfl rfl ?_
                                refine g_getR (n := 236) hx glX7_9 (sX7_0 (by decide)) (dq tX7_pass 118 rfl) rfl ?_
                                refine g_aload_n (n := 237) hx 3 (dq tX7_pass 119 rfl) rfl rfl ?_
                                refine g_getI (n := 240) hx glX7_22 (sX7_3 (by decide)) (dq tX7_pass 120 rfl) rfl (fun h_726l h_726u => ?_)
                                refine g_iald (n := 241) (q := (M_712 7 3).toNat) hx (aX7_0 (b := 7) (by decide)) (dq tX7_pass 121 rfl) rfl (by omega) (by omega) (by omega) rfl (fun h_727l h_727u => ?_)
                                refine g_iload_n (n := 242) hx 0 (dq tX7_pass 122 rfl) rfl rfl ?_
                                refine g_icmp_gt (n := 245) (t := 258) hx (dq tX7_pass 123 rfl) (by decide) rfl (zrI h_727l h_727u (by decide) (by decide)) ⟨by decide, by decide⟩ (fun c_728 => ?_) (fun c_728 => ?_)
                                · exact g_vret hx hr (dq tX7_pass 131 rfl) (fun u_ v_ huv_ => (((((f_715 u_ v_ (by omega)).trans (m_614 u_ v_ (by omega))).trans (m_606 u_ v_ (by omega))).trans (f_7 u_ v_ (by omega))).trans (m_3 u_ v_ (by omega))))
                                · refine g_aload_n (n := 246) hx 3 (dq tX7_pass 124 rfl) rfl rfl ?_
                                  refine g_dup (n := 247) hx (dq tX7_pass 125 rfl) rfl rfl ?_
                                  refine g_getI (n := 250) hx glX7_22 (sX7_3 (by decide)) (dq tX7_pass 126 rfl) rfl (fun h_729l h_729u => ?_)
                                  refine g_iconst (n := 251) hx (dq tX7_pass 127 rfl) rfl ?_
                                  refine g_iadd (n := 252) hx (dq tX7_pass 128 rfl) rfl ?_
                                  refine g_putI (n := 255) hx plX7_22 (sX7_3 (by decide)) (dq tX7_pass 129 rfl) rfl (by omega) (by omega) (fun M_730 m_731e m_731 => ?_)
                                  refine g_goto (n := 200) hx (dq tX7_pass 130 rfl) (by decide) ?_
                                  exact ih_714 _ (by omega) M_730 (fun u_ v_ huv_ => ((m_731 u_ v_ (by omega)).trans (f_715 u_ v_ (by omega)))) rfl
                      exact L_713 _ M_613 (fun _ _ _ => rfl) rfl
                · refine g_bipush (n := 135) hx (dq tX7_pass 66 rfl) rfl (by decide) ?_
                  refine g_istore_n (n := 136) (lv' := [(1, vI 61), (3, vI (M_613 7 1)), (2, vI 256), (0, aR Γ 7)]) hx (dq tX7_pass 67 rfl) (by decide) rfl rfl ?_
                  refine g_bipush (n := 138) hx (dq tX7_pass 68 rfl) rfl (by decide) ?_
                  refine g_istore_n (n := 139) (lv' := [(2, vI 61), (1, vI 61), (3, vI (M_613 7 1)), (0, aR Γ 7)]) hx (dq tX7_pass 69 rfl) (by decide) rfl rfl ?_
                  refine g_aload_n (n := 140) hx 3 (dq tX7_pass 70 rfl) rfl rfl ?_
                  refine g_getI (n := 143) hx glX7_28 (sX7_2 (by decide)) (dq tX7_pass 71 rfl) rfl (fun h_732l h_732u => ?_)
                  have e_733 : M_613 7 2 = M_605 7 2 := (m_614 7 2 (by omega))
                  refine g_iconst (n := 144) hx (dq tX7_pass 72 rfl) rfl ?_
                  refine g_iadd (n := 145) hx (dq tX7_pass 73 rfl) rfl ?_
                  refine g_istore_n (n := 146) (lv' := [(3, vI ((M_613 7 2) + 2)), (2, vI 61), (1, vI 61), (0, aR Γ 7)]) hx (dq tX7_pass 74 rfl) (by decide) rfl rfl ?_
                  refine g_goto (n := 200) hx (dq tX7_pass 75 rfl) (by decide) ?_
                  have L_735 : ∀ (n_ : Nat) (M_734 : zM), (∀ u_ v_, (u_ ≠ 7 ∨ v_ ≠ 3) → M_734 u_ v_ = M_613 u_ v_) → ((400 - M_734 7 3).toNat = n_) → G Γ x 4 (QV Γ x (qctX7_pass M)) M_734 200 [(3, vI ((M_613 7 2) + 2)), (2, vI 61), (1, vI 61), (0, aR Γ 7)] [] := by
                    intro n_
                    induction n_ using Nat.strongRecOn with
                    | _ n_ ih_736 =>
                      intro M_734 f_737 hm_738
                      refine g_aload_n (n := 201) hx 3 (dq tX7_pass 101 rfl) rfl rfl ?_
                      refine g_getI (n := 204) hx glX7_22 (sX7_3 (by decide)) (dq tX7_pass 102 rfl) rfl (fun h_739l h_739u => ?_)
                      refine g_aload_n (n := 205) hx 3 (dq tX7_pass 103 rfl) rfl rfl ?_
                      refine g_getI (n := 208) hx glX7_15 (sX7_1 (by decide)) (dq tX7_pass 104 rfl) rfl (fun h_740l h_740u => ?_)
                      have e_741 : M_734 7 1 = M_613 7 1 := (f_737 7 1 (by omega))
                      refine g_icmp_ge (n := 211) (t := 258) hx (dq tX7_pass 105 rfl) (by decide) rfl (zrI h_739l h_739u (by decide) (by decide)) (zrI h_740l h_740u (by decide) (by decide)) (fun c_742 => ?_) (fun c_742 => ?_)
                      · exact g_vret hx hr (dq tX7_pass 131 rfl) (fun u_ v_ huv_ => (((((f_737 u_ v_ (by omega)).trans (m_614 u_ v_ (by omega))).trans (m_606 u_ v_ (by omega))).trans (f_7 u_ v_ (by omega))).trans (m_3 u_ v_ (by omega))))
                      · refine g_aload_n (n := 212) hx 3 (dq tX7_pass 106 rfl) rfl rfl ?_
                        refine g_getI (n := 215) hx glX7_22 (sX7_3 (by decide)) (dq tX7_pass 107 rfl) rfl (fun h_743l h_743u => ?_)
                        refine g_iload_n (n := 216) hx 0 (dq tX7_pass 108 rfl) rfl rfl ?_
                        refine g_icmp_ge (n := 219) (t := 258) hx (dq tX7_pass 109 rfl) (by decide) rfl (zrI h_743l h_743u (by decide) (by decide)) ⟨by omega, by omega⟩ (fun c_744 => ?_) (fun c_744 => ?_)
                        · exact g_vret hx hr (dq tX7_pass 131 rfl) (fun u_ v_ huv_ => (((((f_737 u_ v_ (by omega)).trans (m_614 u_ v_ (by omega))).trans (m_606 u_ v_ (by omega))).trans (f_7 u_ v_ (by omega))).trans (m_3 u_ v_ (by omega))))
                        · refine g_aload_n (n := 220) hx 3 (dq tX7_pass 110 rfl) rfl rfl ?_
                          refine g_getR (n := 223) hx glX7_9 (sX7_0 (by decide)) (dq tX7_pass 111 rfl) rfl ?_
                          refine g_aload_n (n := 224) hx 3 (dq tX7_pass 112 rfl) rfl rfl ?_
                          refine g_getI (n := 227) hx glX7_22 (sX7_3 (by decide)) (dq tX7_pass 113 rfl) rfl (fun h_745l h_745u => ?_)
                          refine g_iald (n := 228) (q := (M_734 7 3).toNat) hx (aX7_0 (b := 7) (by decide)) (dq tX7_pass 114 rfl) rfl (by omega) (by omega) (by omega) rfl (fun h_746l h_746u => ?_)
                          refine g_iload_n (n := 229) hx 2 (dq tX7_pass 115 rfl) rfl rfl ?_
                          refine g_icmp_lt (n := 232) (t := 258) hx (dq tX7_pass 116 rfl) (by decide) rfl (zrI h_746l h_746u (by decide) (by decide)) ⟨by decide, by decide⟩ (fun c_747 => ?_) (fun c_747 => ?_)
                          · exact g_vret hx hr (dq tX7_pass 131 rfl) (fun u_ v_ huv_ => (((((f_737 u_ v_ (by omega)).trans (m_614 u_ v_ (by omega))).trans (m_606 u_ v_ (by omega))).trans (f_7 u_ v_ (by omega))).trans (m_3 u_ v_ (by omega))))
                          · refine g_aload_n (n := 233) hx 3 (dq tX7_pass 117 rfl) rfl rfl ?_
                            refine g_getR (n := 236) hx glX7_9 (sX7_0 (by decide)) (dq tX7_pass 118 rfl) rfl ?_
                            refine g_aload_n (n := 237) hx 3 (dq tX7_pass 119 rfl) rfl rfl ?_
                            refine g_getI (n := 240) hx glX7_22 (sX7_3 (by decide)) (dq tX7_pass 120 rfl) rfl (fun h_748l h_748u => ?_)
                            refine g_iald (n := 241) (q := (M_734 7 3).toNat) hx (aX7_0 (b := 7) (by decide)) (dq tX7_pass 121 rfl) rfl (by omega) (by omega) (by omega) rfl (fun h_749l h_749u => ?_)
                            refine g_iload_n (n := 242) hx 1 (dq tX7_pass 122 rfl) rfl rfl ?_
                            refine g_icmp_gt (n := 245) (t := 258) hx (dq tX7_pass 123 rfl) (by decide) rfl (zrI h_749l h_749u (by decide) (by decide)) ⟨by decide, by decide⟩ (fun c_750 => ?_) (fun c_750 => ?_)
                            · exact g_vret hx hr (dq tX7_pass 131 rfl) (fun u_ v_ huv_ => (((((f_737 u_ v_ (by omega)).trans (m_614 u_ v_ (by omega))).trans (m_606 u_ v_ (by omega))).trans (f_7 u_ v_ (by omega))).trans (m_3 u_ v_ (by omega))))
                            · refine g_aload_n (n := 246) hx 3 (dq tX7_pass 124 rfl) rfl rfl ?_
                              refine g_dup (n := 247) hx (dq tX7_pass 125 rfl) rfl rfl ?_
                              refine g_getI (n := 250) hx glX7_22 (sX7_3 (by decide)) (dq tX7_pass 126 rfl) rfl (fun h_751l h_751u => ?_)
                              refine g_iconst (n := 251) hx (dq tX7_pass 127 rfl) rfl ?_
                              refine g_iadd (n := 252) hx (dq tX7_pass 128 rfl) rfl ?_
                              refine g_putI (n := 255) hx plX7_22 (sX7_3 (by decide)) (dq tX7_pass 129 rfl) rfl (by omega) (by omega) (fun M_752 m_753e m_753 => ?_)
                              refine g_goto (n := 200) hx (dq tX7_pass 130 rfl) (by decide) ?_
                              exact ih_736 _ (by omega) M_752 (fun u_ v_ huv_ => ((m_753 u_ v_ (by omega)).trans (f_737 u_ v_ (by omega)))) rfl
                  exact L_735 _ M_613 (fun _ _ _ => rfl) rfl
            · refine g_aload_n (n := 87) hx 0 (dq tX7_pass 43 rfl) rfl rfl ?_
              refine g_getI (n := 90) hx glX7_28 (sX7_2 (by decide)) (dq tX7_pass 44 rfl) rfl (fun h_754l h_754u => ?_)
              refine g_iconst (n := 91) hx (dq tX7_pass 45 rfl) rfl ?_
              refine g_iadd (n := 92) hx (dq tX7_pass 46 rfl) rfl ?_
              refine g_goto (n := 99) hx (dq tX7_pass 47 rfl) (by decide) ?_
              refine g_putI (n := 102) hx plX7_22 (sX7_3 (by decide)) (dq tX7_pass 50 rfl) rfl (by omega) (by omega) (fun M_755 m_756e m_756 => ?_)
              refine g_sipush (n := 105) hx (dq tX7_pass 51 rfl) rfl (by decide) ?_
              refine g_istore_n (n := 106) (lv' := [(1, vI 256), (0, aR Γ 7)]) hx (dq tX7_pass 52 rfl) (by decide) rfl rfl ?_
              refine g_sipush (n := 109) hx (dq tX7_pass 53 rfl) rfl (by decide) ?_
              refine g_istore_n (n := 110) (lv' := [(2, vI 256), (1, vI 256), (0, aR Γ 7)]) hx (dq tX7_pass 54 rfl) (by decide) rfl rfl ?_
              refine g_aload_n (n := 111) hx 2 (dq tX7_pass 55 rfl) rfl rfl ?_
              refine g_getI (n := 114) hx glX7_15 (sX7_1 (by decide)) (dq tX7_pass 56 rfl) rfl (fun h_757l h_757u => ?_)
              have e_758 : M_755 7 1 = M_605 7 1 := (m_756 7 1 (by omega))
              refine g_istore_n (n := 115) (lv' := [(3, vI (M_755 7 1)), (2, vI 256), (1, vI 256), (0, aR Γ 7)]) hx (dq tX7_pass 57 rfl) (by decide) rfl rfl ?_
              refine g_aload_n (n := 116) hx 3 (dq tX7_pass 58 rfl) rfl rfl ?_
              refine g_getI (n := 119) hx glX7_31 (sX7_4 (by decide)) (dq tX7_pass 59 rfl) rfl (fun h_759l h_759u => ?_)
              have e_760 : M_755 7 4 = M_605 7 4 := (m_756 7 4 (by omega))
              refine g_bipush (n := 121) hx (dq tX7_pass 60 rfl) rfl (by decide) ?_
              refine g_icmp_eq (n := 124) (t := 133) hx (dq tX7_pass 61 rfl) (by decide) rfl (zrI h_759l h_759u (by decide) (by decide)) ⟨by decide, by decide⟩ (fun c_761 => ?_) (fun c_761 => ?_)
              · refine g_bipush (n := 135) hx (dq tX7_pass 66 rfl) rfl (by decide) ?_
                refine g_istore_n (n := 136) (lv' := [(1, vI 61), (3, vI (M_755 7 1)), (2, vI 256), (0, aR Γ 7)]) hx (dq tX7_pass 67 rfl) (by decide) rfl rfl ?_
                refine g_bipush (n := 138) hx (dq tX7_pass 68 rfl) rfl (by decide) ?_
                refine g_istore_n (n := 139) (lv' := [(2, vI 61), (1, vI 61), (3, vI (M_755 7 1)), (0, aR Γ 7)]) hx (dq tX7_pass 69 rfl) (by decide) rfl rfl ?_
                refine g_aload_n (n := 140) hx 3 (dq tX7_pass 70 rfl) rfl rfl ?_
                refine g_getI (n := 143) hx glX7_28 (sX7_2 (by decide)) (dq tX7_pass 71 rfl) rfl (fun h_762l h_762u => ?_)
                have e_763 : M_755 7 2 = M_605 7 2 := (m_756 7 2 (by omega))
                refine g_iconst (n := 144) hx (dq tX7_pass 72 rfl) rfl ?_
                refine g_iadd (n := 145) hx (dq tX7_pass 73 rfl) rfl ?_
                refine g_istore_n (n := 146) (lv' := [(3, vI ((M_755 7 2) + 2)), (2, vI 61), (1, vI 61), (0, aR Γ 7)]) hx (dq tX7_pass 74 rfl) (by decide) rfl rfl ?_
                refine g_goto (n := 200) hx (dq tX7_pass 75 rfl) (by decide) ?_
                have L_765 : ∀ (n_ : Nat) (M_764 : zM), (∀ u_ v_, (u_ ≠ 7 ∨ v_ ≠ 3) → M_764 u_ v_ = M_755 u_ v_) → ((400 - M_764 7 3).toNat = n_) → G Γ x 4 (QV Γ x (qctX7_pass M)) M_764 200 [(3, vI ((M_755 7 2) + 2)), (2, vI 61), (1, vI 61), (0, aR Γ 7)] [] := by
                  intro n_
                  induction n_ using Nat.strongRecOn with
                  | _ n_ ih_766 =>
                    intro M_764 f_767 hm_768
                    refine g_aload_n (n := 201) hx 3 (dq tX7_pass 101 rfl) rfl rfl ?_
                    refine g_getI (n := 204) hx glX7_22 (sX7_3 (by decide)) (dq tX7_pass 102 rfl) rfl (fun h_769l h_769u => ?_)
                    refine g_aload_n (n := 205) hx 3 (dq tX7_pass 103 rfl) rfl rfl ?_
                    refine g_getI (n := 208) hx glX7_15 (sX7_1 (by decide)) (dq tX7_pass 104 rfl) rfl (fun h_770l h_770u => ?_)
                    have e_771 : M_764 7 1 = M_755 7 1 := (f_767 7 1 (by omega))
                    refine g_icmp_ge (n := 211) (t := 258) hx (dq tX7_pass 105 rfl) (by decide) rfl (zrI h_769l h_769u (by decide) (by decide)) (zrI h_770l h_770u (by decide) (by decide)) (fun c_772 => ?_) (fun c_772 => ?_)
                    · exact g_vret hx hr (dq tX7_pass 131 rfl) (fun u_ v_ huv_ => (((((f_767 u_ v_ (by omega)).trans (m_756 u_ v_ (by omega))).trans (m_606 u_ v_ (by omega))).trans (f_7 u_ v_ (by omega))).trans (m_3 u_ v_ (by omega))))
                    · refine g_aload_n (n := 212) hx 3 (dq tX7_pass 106 rfl) rfl rfl ?_
                      refine g_getI (n := 215) hx glX7_22 (sX7_3 (by decide)) (dq tX7_pass 107 rfl) rfl (fun h_773l h_773u => ?_)
                      refine g_iload_n (n := 216) hx 0 (dq tX7_pass 108 rfl) rfl rfl ?_
                      refine g_icmp_ge (n := 219) (t := 258) hx (dq tX7_pass 109 rfl) (by decide) rfl (zrI h_773l h_773u (by decide) (by decide)) ⟨by omega, by omega⟩ (fun c_774 => ?_) (fun c_774 => ?_)
                      · exact g_vret hx hr (dq tX7_pass 131 rfl) (fun u_ v_ huv_ => (((((f_767 u_ v_ (by omega)).trans (m_756 u_ v_ (by omega))).trans (m_606 u_ v_ (by omega))).trans (f_7 u_ v_ (by omega))).trans (m_3 u_ v_ (by omega))))
                      · refine g_aload_n (n := 220) hx 3 (dq tX7_pass 110 rfl) rfl rfl ?_
                        refine g_getR (n := 223) hx glX7_9 (sX7_0 (by decide)) (dq tX7_pass 111 rfl) rfl ?_
                        refine g_aload_n (n := 224) hx 3 (dq tX7_pass 112 rfl) rfl rfl ?_
                        refine g_getI (n := 227) hx glX7_22 (sX7_3 (by decide)) (dq tX7_pass 113 rfl) rfl (fun h_775l h_775u => ?_)
                        refine g_iald (n := 228) (q := (M_764 7 3).toNat) hx (aX7_0 (b := 7) (by decide)) (dq tX7_pass 114 rfl) rfl (by omega) (by omega) (by omega) rfl (fun h_776l h_776u => ?_)
                        refine g_iload_n (n := 229) hx 2 (dq tX7_pass 115 rfl) rfl rfl ?_
                        refine g_icmp_lt (n := 232) (t := 258) hx (dq tX7_pass 116 rfl) (by decide) rfl (zrI h_776l h_776u (by decide) (by decide)) ⟨by decide, by decide⟩ (fun c_777 => ?_) (fun c_777 => ?_)
                        · exact g_vret hx hr (dq tX7_pass 131 rfl) (fun u_ v_ huv_ => (((((f_767 u_ v_ (by omega)).trans (m_756 u_ v_ (by omega))).trans (m_606 u_ v_ (by omega))).trans (f_7 u_ v_ (by omega))).trans (m_3 u_ v_ (by omega))))
                        · refine g_aload_n (n := 233) hx 3 (dq tX7_pass 117 rfl) rfl rfl ?_
                          refine g_getR (n := 236) hx glX7_9 (sX7_0 (by decide)) (dq tX7_pass 118 rfl) rfl ?_
                          refine g_aload_n (n := 237) hx 3 (dq tX7_pass 119 rfl) rfl rfl ?_
                          refine g_getI (n := 240) hx glX7_22 (sX7_3 (by decide)) (dq tX7_pass 120 rfl) rfl (fun h_778l h_778u => ?_)
                          refine g_iald (n := 241) (q := (M_764 7 3).toNat) hx (aX7_0 (b := 7) (by decide)) (dq tX7_pass 121 rfl) rfl (by omega) (by omega) (by omega) rfl (fun h_779l h_779u => ?_)
                          refine g_iload_n (n := 242) hx 1 (dq tX7_pass 122 rfl) rfl rfl ?_
                          refine g_icmp_gt (n := 245) (t := 258) hx (dq tX7_pass 123 rfl) (by decide) rfl (zrI h_779l h_779u (by decide) (by decide)) ⟨by decide, by decide⟩ (fun c_780 => ?_) (fun c_780 => ?_)
                          · exact g_vret hx hr (dq tX7_pass 131 rfl) (fun u_ v_ huv_ => (((((f_767 u_ v_ (by omega)).trans (m_756 u_ v_ (by omega))).trans (m_606 u_ v_ (by omega))).trans (f_7 u_ v_ (by omega))).trans (m_3 u_ v_ (by omega))))
                          · refine g_aload_n (n := 246) hx 3 (dq tX7_pass 124 rfl) rfl rfl ?_
                            refine g_dup (n := 247) hx (dq tX7_pass 125 rfl) rfl rfl ?_
                            refine g_getI (n := 250) hx glX7_22 (sX7_3 (by decide)) (dq tX7_pass 126 rfl) rfl (fun h_781l h_781u => ?_)
                            refine g_iconst (n := 251) hx (dq tX7_pass 127 rfl) rfl ?_
                            refine g_iadd (n := 252) hx (dq tX7_pass 128 rfl) rfl ?_
                            refine g_putI (n := 255) hx plX7_22 (sX7_3 (by decide)) (dq tX7_pass 129 rfl) rfl (by omega) (by omega) (fun M_782 m_783e m_783 => ?_)
                            refine g_goto (n := 200) hx (dq tX7_pass 130 rfl) (by decide) ?_
                            exact ih_766 _ (by omega) M_782 (fun u_ v_ huv_ => ((m_783 u_ v_ (by omega)).trans (f_767 u_ v_ (by omega)))) rfl
                exact L_765 _ M_755 (fun _ _ _ => rfl) rfl
              · refine g_aload_n (n := 125) hx 3 (dq tX7_pass 62 rfl) rfl rfl ?_
                refine g_getI (n := 128) hx glX7_31 (sX7_4 (by decide)) (dq tX7_pass 63 rfl) rfl (fun h_784l h_784u => ?_)
                refine g_bipush (n := 130) hx (dq tX7_pass 64 rfl) rfl (by decide) ?_
                refine g_icmp_ne (n := 133) (t := 149) hx (dq tX7_pass 65 rfl) (by decide) rfl (zrI h_784l h_784u (by decide) (by decide)) ⟨by decide, by decide⟩ (fun c_785 => ?_) (fun c_785 => ?_)
                · refine g_aload_n (n := 150) hx 3 (dq tX7_pass 76 rfl) rfl rfl ?_
                  refine g_getI (n := 153) hx glX7_31 (sX7_4 (by decide)) (dq tX7_pass 77 rfl) rfl (fun h_786l h_786u => ?_)
                  refine g_bipush (n := 155) hx (dq tX7_pass 78 rfl) rfl (by decide) ?_
                  refine g_icmp_lt (n := 158) (t := 176) hx (dq tX7_pass 79 rfl) (by decide) rfl (zrI h_786l h_786u (by decide) (by decide)) ⟨by decide, by decide⟩ (fun c_787 => ?_) (fun c_787 => ?_)
                  · refine g_aload_n (n := 177) hx 3 (dq tX7_pass 89 rfl) rfl rfl ?_
                    refine g_getI (n := 180) hx glX7_31 (sX7_4 (by decide)) (dq tX7_pass 90 rfl) rfl (fun h_788l h_788u => ?_)
                    refine g_bipush (n := 182) hx (dq tX7_pass 91 rfl) rfl (by decide) ?_
                    refine g_icmp_lt (n := 185) (t := 200) hx (dq tX7_pass 92 rfl) (by decide) rfl (zrI h_788l h_788u (by decide) (by decide)) ⟨by decide, by decide⟩ (fun c_789 => ?_) (fun c_789 => ?_)
                    · have L_790 : ∀ (n_ : Nat), ((400 - M_755 7 3).toNat = n_) → G Γ x 4 (QV Γ x (qctX7_pass M)) M_755 200 [(3, vI (M_755 7 1)), (2, vI 256), (1, vI 256), (0, aR Γ 7)] [] := by
                        intro n_
                        induction n_ using Nat.strongRecOn with
                        | _ n_ ih_791 =>
                          intro hm_793
                          refine g_aload_n (n := 201) hx 3 (dq tX7_pass 101 rfl) rfl rfl ?_
                          refine g_getI (n := 204) hx glX7_22 (sX7_3 (by decide)) (dq tX7_pass 102 rfl) rfl (fun h_794l h_794u => ?_)
                          refine g_aload_n (n := 205) hx 3 (dq tX7_pass 103 rfl) rfl rfl ?_
                          refine g_getI (n := 208) hx glX7_15 (sX7_1 (by decide)) (dq tX7_pass 104 rfl) rfl (fun h_795l h_795u => ?_)
                          refine g_icmp_ge (n := 211) (t := 258) hx (dq tX7_pass 105 rfl) (by decide) rfl (zrI h_794l h_794u (by decide) (by decide)) (zrI h_795l h_795u (by decide) (by decide)) (fun c_796 => ?_) (fun c_796 => ?_)
                          · exact g_vret hx hr (dq tX7_pass 131 rfl) (fun u_ v_ huv_ => ((((m_756 u_ v_ (by omega)).trans (m_606 u_ v_ (by omega))).trans (f_7 u_ v_ (by omega))).trans (m_3 u_ v_ (by omega))))
                          · refine g_aload_n (n := 212) hx 3 (dq tX7_pass 106 rfl) rfl rfl ?_
                            refine g_getI (n := 215) hx glX7_22 (sX7_3 (by decide)) (dq tX7_pass 107 rfl) rfl (fun h_797l h_797u => ?_)
                            refine g_iload_n (n := 216) hx 0 (dq tX7_pass 108 rfl) rfl rfl ?_
                            refine g_icmp_ge (n := 219) (t := 258) hx (dq tX7_pass 109 rfl) (by decide) rfl (zrI h_797l h_797u (by decide) (by decide)) (zrI h_757l h_757u (by decide) (by decide)) (fun c_798 => ?_) (fun c_798 => ?_)
                            · exact g_vret hx hr (dq tX7_pass 131 rfl) (fun u_ v_ huv_ => ((((m_756 u_ v_ (by omega)).trans (m_606 u_ v_ (by omega))).trans (f_7 u_ v_ (by omega))).trans (m_3 u_ v_ (by omega))))
                            · refine g_aload_n (n := 220) hx 3 (dq tX7_pass 110 rfl) rfl rfl ?_
                              refine g_getR (n := 223) hx glX7_9 (sX7_0 (by decide)) (dq tX7_pass 111 rfl) rfl ?_
                              refine g_aload_n (n := 224) hx 3 (dq tX7_pass 112 rfl) rfl rfl ?_
                              refine g_getI (n := 227) hx glX7_22 (sX7_3 (by decide)) (dq tX7_pass 113 rfl) rfl (fun h_799l h_799u => ?_)
                              refine g_iald (n := 228) (q := (M_755 7 3).toNat) hx (aX7_0 (b := 7) (by decide)) (dq tX7_pass 114 rfl) rfl (by omega) (by omega) (by omega) rfl (fun h_800l h_800u => ?_)
                              refine g_iload_n (n := 229) hx 2 (dq tX7_pass 115 rfl) rfl rfl ?_
                              refine g_icmp_lt (n := 232) (t := 258) hx (dq tX7_pass 116 rfl) (by decide) rfl (zrI h_800l h_800u (by decide) (by decide)) ⟨by decide, by decide⟩ (fun c_801 => ?_) (fun c_801 => ?_)
                              · exact g_vret hx hr (dq tX7_pass 131 rfl) (fun u_ v_ huv_ => ((((m_756 u_ v_ (by omega)).trans (m_606 u_ v_ (by omega))).trans (f_7 u_ v_ (by omega))).trans (m_3 u_ v_ (by omega))))
                              · omega
                      exact L_790 _ rfl
                    · refine g_aload_n (n := 186) hx 3 (dq tX7_pass 93 rfl) rfl rfl ?_
                      refine g_getI (n := 189) hx glX7_31 (sX7_4 (by decide)) (dq tX7_pass 94 rfl) rfl (fun h_802l h_802u => ?_)
                      refine g_bipush (n := 191) hx (dq tX7_pass 95 rfl) rfl (by decide) ?_
                      refine g_icmp_gt (n := 194) (t := 200) hx (dq tX7_pass 96 rfl) (by decide) rfl (zrI h_802l h_802u (by decide) (by decide)) ⟨by decide, by decide⟩ (fun c_803 => ?_) (fun c_803 => ?_)
                      · have L_804 : ∀ (n_ : Nat), ((400 - M_755 7 3).toNat = n_) → G Γ x 4 (QV Γ x (qctX7_pass M)) M_755 200 [(3, vI (M_755 7 1)), (2, vI 256), (1, vI 256), (0, aR Γ 7)] [] := by
                          intro n_
                          induction n_ using Nat.strongRecOn with
                          | _ n_ ih_805 =>
                            intro hm_807
                            refine g_aload_n (n := 201) hx 3 (dq tX7_pass 101 rfl) rfl rfl ?_
                            refine g_getI (n := 204) hx glX7_22 (sX7_3 (by decide)) (dq tX7_pass 102 rfl) rfl (fun h_808l h_808u => ?_)
                            refine g_aload_n (n := 205) hx 3 (dq tX7_pass 103 rfl) rfl rfl ?_
                            refine g_getI (n := 208) hx glX7_15 (sX7_1 (by decide)) (dq tX7_pass 104 rfl) rfl (fun h_809l h_809u => ?_)
                            refine g_icmp_ge (n := 211) (t := 258) hx (dq tX7_pass 105 rfl) (by decide) rfl (zrI h_808l h_808u (by decide) (by decide)) (zrI h_809l h_809u (by decide) (by decide)) (fun c_810 => ?_) (fun c_810 => ?_)
                            · exact g_vret hx hr (dq tX7_pass 131 rfl) (fun u_ v_ huv_ => ((((m_756 u_ v_ (by omega)).trans (m_606 u_ v_ (by omega))).trans (f_7 u_ v_ (by omega))).trans (m_3 u_ v_ (by omega))))
                            · refine g_aload_n (n := 212) hx 3 (dq tX7_pass 106 rfl) rfl rfl ?_
                              refine g_getI (n := 215) hx glX7_22 (sX7_3 (by decide)) (dq tX7_pass 107 rfl) rfl (fun h_811l h_811u => ?_)
                              refine g_iload_n (n := 216) hx 0 (dq tX7_pass 108 rfl) rfl rfl ?_
                              refine g_icmp_ge (n := 219) (t := 258) hx (dq tX7_pass 109 rfl) (by decide) rfl (zrI h_811l h_811u (by decide) (by decide)) (zrI h_757l h_757u (by decide) (by decide)) (fun c_812 => ?_) (fun c_812 => ?_)
                              · exact g_vret hx hr (dq tX7_pass 131 rfl) (fun u_ v_ huv_ => ((((m_756 u_ v_ (by omega)).trans (m_606 u_ v_ (by omega))).trans (f_7 u_ v_ (by omega))).trans (m_3 u_ v_ (by omega))))
                              · refine g_aload_n (n := 220) hx 3 (dq tX7_pass 110 rfl) rfl rfl ?_
                                refine g_getR (n := 223) hx glX7_9 (sX7_0 (by decide)) (dq tX7_pass 111 rfl) rfl ?_
                                refine g_aload_n (n := 224) hx 3 (dq tX7_pass 112 rfl) rfl rfl ?_
                                refine g_getI (n := 227) hx glX7_22 (sX7_3 (by decide)) (dq tX7_pass 113 rfl) rfl (fun h_813l h_813u => ?_)
                                refine g_iald (n := 228) (q := (M_755 7 3).toNat) hx (aX7_0 (b := 7) (by decide)) (dq tX7_pass 114 rfl) rfl (by omega) (by omega) (by omega) rfl (fun h_814l h_814u => ?_)
                                refine g_iload_n (n := 229) hx 2 (dq tX7_pass 115 rfl) rfl rfl ?_
                                refine g_icmp_lt (n := 232) (t := 258) hx (dq tX7_pass 116 rfl) (by decide) rfl (zrI h_814l h_814u (by decide) (by decide)) ⟨by decide, by decide⟩ (fun c_815 => ?_) (fun c_815 => ?_)
                                · exact g_vret hx hr (dq tX7_pass 131 rfl) (fun u_ v_ huv_ => ((((m_756 u_ v_ (by omega)).trans (m_606 u_ v_ (by omega))).trans (f_7 u_ v_ (by omega))).trans (m_3 u_ v_ (by omega))))
                                · omega
                        exact L_804 _ rfl
                      · refine g_bipush (n := 196) hx (dq tX7_pass 97 rfl) rfl (by decide) ?_
                        refine g_istore_n (n := 197) (lv' := [(1, vI 48), (3, vI (M_755 7 1)), (2, vI 256), (0, aR Γ 7)]) hx (dq tX7_pass 98 rfl) (by decide) rfl rfl ?_
                        refine g_bipush (n := 199) hx (dq tX7_pass 99 rfl) rfl (by decide) ?_
                        refine g_istore_n (n := 200) (lv' := [(2, vI 57), (1, vI 48), (3, vI (M_755 7 1)), (0, aR Γ 7)]) hx (dq tX7_pass 100 rfl) (by decide) rfl rfl ?_
                        have L_817 : ∀ (n_ : Nat) (M_816 : zM), (∀ u_ v_, (u_ ≠ 7 ∨ v_ ≠ 3) → M_816 u_ v_ = M_755 u_ v_) → ((400 - M_816 7 3).toNat = n_) → G Γ x 4 (QV Γ x (qctX7_pass M)) M_816 200 [(2, vI 57), (1, vI 48), (3, vI (M_755 7 1)), (0, aR Γ 7)] [] := by
                          intro n_
                          induction n_ using Nat.strongRecOn with
                          | _ n_ ih_818 =>
                            intro M_816 f_819 hm_820
                            refine g_aload_n (n := 201) hx 3 (dq tX7_pass 101 rfl) rfl rfl ?_
                            refine g_getI (n := 204) hx glX7_22 (sX7_3 (by decide)) (dq tX7_pass 102 rfl) rfl (fun h_821l h_821u => ?_)
                            refine g_aload_n (n := 205) hx 3 (dq tX7_pass 103 rfl) rfl rfl ?_
                            refine g_getI (n := 208) hx glX7_15 (sX7_1 (by decide)) (dq tX7_pass 104 rfl) rfl (fun h_822l h_822u => ?_)
                            have e_823 : M_816 7 1 = M_755 7 1 := (f_819 7 1 (by omega))
                            refine g_icmp_ge (n := 211) (t := 258) hx (dq tX7_pass 105 rfl) (by decide) rfl (zrI h_821l h_821u (by decide) (by decide)) (zrI h_822l h_822u (by decide) (by decide)) (fun c_824 => ?_) (fun c_824 => ?_)
                            · exact g_vret hx hr (dq tX7_pass 131 rfl) (fun u_ v_ huv_ => (((((f_819 u_ v_ (by omega)).trans (m_756 u_ v_ (by omega))).trans (m_606 u_ v_ (by omega))).trans (f_7 u_ v_ (by omega))).trans (m_3 u_ v_ (by omega))))
                            · refine g_aload_n (n := 212) hx 3 (dq tX7_pass 106 rfl) rfl rfl ?_
                              refine g_getI (n := 215) hx glX7_22 (sX7_3 (by decide)) (dq tX7_pass 107 rfl) rfl (fun h_825l h_825u => ?_)
                              refine g_iload_n (n := 216) hx 2 (dq tX7_pass 108 rfl) rfl rfl ?_
                              refine g_icmp_ge (n := 219) (t := 258) hx (dq tX7_pass 109 rfl) (by decide) rfl (zrI h_825l h_825u (by decide) (by decide)) (zrI h_757l h_757u (by decide) (by decide)) (fun c_826 => ?_) (fun c_826 => ?_)
                              · exact g_vret hx hr (dq tX7_pass 131 rfl) (fun u_ v_ huv_ => (((((f_819 u_ v_ (by omega)).trans (m_756 u_ v_ (by omega))).trans (m_606 u_ v_ (by omega))).trans (f_7 u_ v_ (by omega))).trans (m_3 u_ v_ (by omega))))
                              · refine g_aload_n (n := 220) hx 3 (dq tX7_pass 110 rfl) rfl rfl ?_
                                refine g_getR (n := 223) hx glX7_9 (sX7_0 (by decide)) (dq tX7_pass 111 rfl) rfl ?_
                                refine g_aload_n (n := 224) hx 3 (dq tX7_pass 112 rfl) rfl rfl ?_
                                refine g_getI (n := 227) hx glX7_22 (sX7_3 (by decide)) (dq tX7_pass 113 rfl) rfl (fun h_827l h_827u => ?_)
                                refine g_iald (n := 228) (q := (M_816 7 3).toNat) hx (aX7_0 (b := 7) (by decide)) (dq tX7_pass 114 rfl) rfl (by omega) (by omega) (by omega) rfl (fun h_828l h_828u => ?_)
                                refine g_iload_n (n := 229) hx 1 (dq tX7_pass 115 rfl) rfl rfl ?_
                                refine g_icmp_lt (n := 232) (t := 258) hx (dq tX7_pass 116 rfl) (by decide) rfl (zrI h_828l h_828u (by decide) (by decide)) ⟨by decide, by decide⟩ (fun c_829 => ?_) (fun c_829 => ?_)
                                · exact g_vret hx hr (dq tX7_pass 131 rfl) (fun u_ v_ huv_ => (((((f_819 u_ v_ (by omega)).trans (m_756 u_ v_ (by omega))).trans (m_606 u_ v_ (by omega))).trans (f_7 u_ v_ (by omega))).trans (m_3 u_ v_ (by omega))))
                                · refine g_aload_n (n := 233) hx 3 (dq tX7_pass 117 rfl) rfl rfl ?_
                                  refine g_getR (n := 236) hx glX7_9 (sX7_0 (by decide)) (dq tX7_pass 118 rfl) rfl ?_
                                  refine g_aload_n (n := 237) hx 3 (dq tX7_pass 119 rfl) rfl rfl ?_
                                  refine g_getI (n := 240) hx glX7_22 (sX7_3 (by decide)) (dq tX7_pass 120 rfl) rfl (fun h_830l h_830u => ?_)
                                  refine g_iald (n := 241) (q := (M_816 7 3).toNat) hx (aX7_0 (b := 7) (by decide)) (dq tX7_pass 121 rfl) rfl (by omega) (by omega) (by omega) rfl (fun h_831l h_831u => ?_)
                                  refine g_iload_n (n := 242) hx 0 (dq tX7_pass 122 rfl) rfl rfl ?_
                                  refine g_icmp_gt (n := 245) (t := 258) hx (dq tX7_pass 123 rfl) (by decide) rfl (zrI h_831l h_831u (by decide) (by decide)) ⟨by decide, by decide⟩ (fun c_832 => ?_) (fun c_832 => ?_)
                                  · exact g_vret hx hr (dq tX7_pass 131 rfl) (fun u_ v_ huv_ => (((((f_819 u_ v_ (by omega)).trans (m_756 u_ v_ (by omega))).trans (m_606 u_ v_ (by omega))).trans (f_7 u_ v_ (by omega))).trans (m_3 u_ v_ (by omega))))
                                  · refine g_aload_n (n := 246) hx 3 (dq tX7_pass 124 rfl) rfl rfl ?_
                                    refine g_dup (n := 247) hx (dq tX7_pass 125 rfl) rfl rfl ?_
                                    refine g_getI (n := 250) hx glX7_22 (sX7_3 (by decide)) (dq tX7_pass 126 rfl) rfl (fun h_833l h_833u => ?_)
                                    refine g_iconst (n := 251) hx (dq tX7_pass 127 rfl) rfl ?_
                                    refine g_iadd (n := 252) hx (dq tX7_pass 128 rfl) rfl ?_
                                    refine g_putI (n := 255) hx plX7_22 (sX7_3 (by decide)) (dq tX7_pass 129 rfl) rfl (by omega) (by omega) (fun M_834 m_835e m_835 => ?_)
                                    refine g_goto (n := 200) hx (dq tX7_pass 130 rfl) (by decide) ?_
                                    exact ih_818 _ (by omega) M_834 (fun u_ v_ huv_ => ((m_835 u_ v_ (by omega)).trans (f_819 u_ v_ (by omega)))) rfl
                        exact L_817 _ M_755 (fun _ _ _ => rfl) rfl
                  · refine g_aload_n (n := 159) hx 3 (dq tX7_pass 80 rfl) rfl rfl ?_
                    refine g_getI (n := 162) hx glX7_31 (sX7_4 (by decide)) (dq tX7_pass 81 rfl) rfl (fun h_836l h_836u => ?_)
                    refine g_bipush (n := 164) hx (dq tX7_pass 82 rfl) rfl (by decide) ?_
                    refine g_icmp_gt (n := 167) (t := 176) hx (dq tX7_pass 83 rfl) (by decide) rfl (zrI h_836l h_836u (by decide) (by decide)) ⟨by decide, by decide⟩ (fun c_837 => ?_) (fun c_837 => ?_)
                    · refine g_aload_n (n := 177) hx 3 (dq tX7_pass 89 rfl) rfl rfl ?_
                      refine g_getI (n := 180) hx glX7_31 (sX7_4 (by decide)) (dq tX7_pass 90 rfl) rfl (fun h_838l h_838u => ?_)
                      refine g_bipush (n := 182) hx (dq tX7_pass 91 rfl) rfl (by decide) ?_
                      refine g_icmp_lt (n := 185) (t := 200) hx (dq tX7_pass 92 rfl) (by decide) rfl (zrI h_838l h_838u (by decide) (by decide)) ⟨by decide, by decide⟩ (fun c_839 => ?_) (fun c_839 => ?_)
                      · omega
                      · refine g_aload_n (n := 186) hx 3 (dq tX7_pass 93 rfl) rfl rfl ?_
                        refine g_getI (n := 189) hx glX7_31 (sX7_4 (by decide)) (dq tX7_pass 94 rfl) rfl (fun h_840l h_840u => ?_)
                        refine g_bipush (n := 191) hx (dq tX7_pass 95 rfl) rfl (by decide) ?_
                        refine g_icmp_gt (n := 194) (t := 200) hx (dq tX7_pass 96 rfl) (by decide) rfl (zrI h_840l h_840u (by decide) (by decide)) ⟨by decide, by decide⟩ (fun c_841 => ?_) (fun c_841 => ?_)
                        · have L_842 : ∀ (n_ : Nat), ((400 - M_755 7 3).toNat = n_) → G Γ x 4 (QV Γ x (qctX7_pass M)) M_755 200 [(3, vI (M_755 7 1)), (2, vI 256), (1, vI 256), (0, aR Γ 7)] [] := by
                            intro n_
                            induction n_ using Nat.strongRecOn with
                            | _ n_ ih_843 =>
                              intro hm_845
                              refine g_aload_n (n := 201) hx 3 (dq tX7_pass 101 rfl) rfl rfl ?_
                              refine g_getI (n := 204) hx glX7_22 (sX7_3 (by decide)) (dq tX7_pass 102 rfl) rfl (fun h_846l h_846u => ?_)
                              refine g_aload_n (n := 205) hx 3 (dq tX7_pass 103 rfl) rfl rfl ?_
                              refine g_getI (n := 208) hx glX7_15 (sX7_1 (by decide)) (dq tX7_pass 104 rfl) rfl (fun h_847l h_847u => ?_)
                              refine g_icmp_ge (n := 211) (t := 258) hx (dq tX7_pass 105 rfl) (by decide) rfl (zrI h_846l h_846u (by decide) (by decide)) (zrI h_847l h_847u (by decide) (by decide)) (fun c_848 => ?_) (fun c_848 => ?_)
                              · exact g_vret hx hr (dq tX7_pass 131 rfl) (fun u_ v_ huv_ => ((((m_756 u_ v_ (by omega)).trans (m_606 u_ v_ (by omega))).trans (f_7 u_ v_ (by omega))).trans (m_3 u_ v_ (by omega))))
                              · refine g_aload_n (n := 212) hx 3 (dq tX7_pass 106 rfl) rfl rfl ?_
                                refine g_getI (n := 215) hx glX7_22 (sX7_3 (by decide)) (dq tX7_pass 107 rfl) rfl (fun h_849l h_849u => ?_)
                                refine g_iload_n (n := 216) hx 0 (dq tX7_pass 108 rfl) rfl rfl ?_
                                refine g_icmp_ge (n := 219) (t := 258) hx (dq tX7_pass 109 rfl) (by decide) rfl (zrI h_849l h_849u (by decide) (by decide)) (zrI h_757l h_757u (by decide) (by decide)) (fun c_850 => ?_) (fun c_850 => ?_)
                                · exact g_vret hx hr (dq tX7_pass 131 rfl) (fun u_ v_ huv_ => ((((m_756 u_ v_ (by omega)).trans (m_606 u_ v_ (by omega))).trans (f_7 u_ v_ (by omega))).trans (m_3 u_ v_ (by omega))))
                                · refine g_aload_n (n := 220) hx 3 (dq tX7_pass 110 rfl) rfl rfl ?_
                                  refine g_getR (n := 223) hx glX7_9 (sX7_0 (by decide)) (dq tX7_pass 111 rfl) rfl ?_
                                  refine g_aload_n (n := 224) hx 3 (dq tX7_pass 112 rfl) rfl rfl ?_
                                  refine g_getI (n := 227) hx glX7_22 (sX7_3 (by decide)) (dq tX7_pass 113 rfl) rfl (fun h_851l h_851u => ?_)
                                  refine g_iald (n := 228) (q := (M_755 7 3).toNat) hx (aX7_0 (b := 7) (by decide)) (dq tX7_pass 114 rfl) rfl (by omega) (by omega) (by omega) rfl (fun h_852l h_852u => ?_)
                                  refine g_iload_n (n := 229) hx 2 (dq tX7_pass 115 rfl) rfl rfl ?_
                                  refine g_icmp_lt (n := 232) (t := 258) hx (dq tX7_pass 116 rfl) (by decide) rfl (zrI h_852l h_852u (by decide) (by decide)) ⟨by decide, by decide⟩ (fun c_853 => ?_) (fun c_853 => ?_)
                                  · exact g_vret hx hr (dq tX7_pass 131 rfl) (fun u_ v_ huv_ => ((((m_756 u_ v_ (by omega)).trans (m_606 u_ v_ (by omega))).trans (f_7 u_ v_ (by omega))).trans (m_3 u_ v_ (by omega))))
                                  · omega
                          exact L_842 _ rfl
                        · omega
                    · refine g_bipush (n := 169) hx (dq tX7_pass 84 rfl) rfl (by decide) ?_
                      refine g_istore_n (n := 170) (lv' := [(1, vI 97), (3, vI (M_755 7 1)), (2, vI 256), (0, aR Γ 7)]) hx (dq tX7_pass 85 rfl) (by decide) rfl rfl ?_
                      refine g_bipush (n := 172) hx (dq tX7_pass 86 rfl) rfl (by decide) ?_
                      refine g_istore_n (n := 173) (lv' := [(2, vI 122), (1, vI 97), (3, vI (M_755 7 1)), (0, aR Γ 7)]) hx (dq tX7_pass 87 rfl) (by decide) rfl rfl ?_
                      refine g_goto (n := 200) hx (dq tX7_pass 88 rfl) (by decide) ?_
                      have L_855 : ∀ (n_ : Nat) (M_854 : zM), (∀ u_ v_, (u_ ≠ 7 ∨ v_ ≠ 3) → M_854 u_ v_ = M_755 u_ v_) → ((400 - M_854 7 3).toNat = n_) → G Γ x 4 (QV Γ x (qctX7_pass M)) M_854 200 [(2, vI 122), (1, vI 97), (3, vI (M_755 7 1)), (0, aR Γ 7)] [] := by
                        intro n_
                        induction n_ using Nat.strongRecOn with
                        | _ n_ ih_856 =>
                          intro M_854 f_857 hm_858
                          refine g_aload_n (n := 201) hx 3 (dq tX7_pass 101 rfl) rfl rfl ?_
                          refine g_getI (n := 204) hx glX7_22 (sX7_3 (by decide)) (dq tX7_pass 102 rfl) rfl (fun h_859l h_859u => ?_)
                          refine g_aload_n (n := 205) hx 3 (dq tX7_pass 103 rfl) rfl rfl ?_
                          refine g_getI (n := 208) hx glX7_15 (sX7_1 (by decide)) (dq tX7_pass 104 rfl) rfl (fun h_860l h_860u => ?_)
                          have e_861 : M_854 7 1 = M_755 7 1 := (f_857 7 1 (by omega))
                          refine g_icmp_ge (n := 211) (t := 258) hx (dq tX7_pass 105 rfl) (by decide) rfl (zrI h_859l h_859u (by decide) (by decide)) (zrI h_860l h_860u (by decide) (by decide)) (fun c_862 => ?_) (fun c_862 => ?_)
                          · exact g_vret hx hr (dq tX7_pass 131 rfl) (fun u_ v_ huv_ => (((((f_857 u_ v_ (by omega)).trans (m_756 u_ v_ (by omega))).trans (m_606 u_ v_ (by omega))).trans (f_7 u_ v_ (by omega))).trans (m_3 u_ v_ (by omega))))
                          · refine g_aload_n (n := 212) hx 3 (dq tX7_pass 106 rfl) rfl rfl ?_
                            refine g_getI (n := 215) hx glX7_22 (sX7_3 (by decide)) (dq tX7_pass 107 rfl) rfl (fun h_863l h_863u => ?_)
                            refine g_iload_n (n := 216) hx 2 (dq tX7_pass 108 rfl) rfl rfl ?_
                            refine g_icmp_ge (n := 219) (t := 258) hx (dq tX7_pass 109 rfl) (by decide) rfl (zrI h_863l h_863u (by decide) (by decide)) (zrI h_757l h_757u (by decide) (by decide)) (fun c_864 => ?_) (fun c_864 => ?_)
                            · exact g_vret hx hr (dq tX7_pass 131 rfl) (fun u_ v_ huv_ => (((((f_857 u_ v_ (by omega)).trans (m_756 u_ v_ (by omega))).trans (m_606 u_ v_ (by omega))).trans (f_7 u_ v_ (by omega))).trans (m_3 u_ v_ (by omega))))
                            · refine g_aload_n (n := 220) hx 3 (dq tX7_pass 110 rfl) rfl rfl ?_
                              refine g_getR (n := 223) hx glX7_9 (sX7_0 (by decide)) (dq tX7_pass 111 rfl) rfl ?_
                              refine g_aload_n (n := 224) hx 3 (dq tX7_pass 112 rfl) rfl rfl ?_
                              refine g_getI (n := 227) hx glX7_22 (sX7_3 (by decide)) (dq tX7_pass 113 rfl) rfl (fun h_865l h_865u => ?_)
                              refine g_iald (n := 228) (q := (M_854 7 3).toNat) hx (aX7_0 (b := 7) (by decide)) (dq tX7_pass 114 rfl) rfl (by omega) (by omega) (by omega) rfl (fun h_866l h_866u => ?_)
                              refine g_iload_n (n := 229) hx 1 (dq tX7_pass 115 rfl) rfl rfl ?_
                              refine g_icmp_lt (n := 232) (t := 258) hx (dq tX7_pass 116 rfl) (by decide) rfl (zrI h_866l h_866u (by decide) (by decide)) ⟨by decide, by decide⟩ (fun c_867 => ?_) (fun c_867 => ?_)
                              · exact g_vret hx hr (dq tX7_pass 131 rfl) (fun u_ v_ huv_ => (((((f_857 u_ v_ (by omega)).trans (m_756 u_ v_ (by omega))).trans (m_606 u_ v_ (by omega))).trans (f_7 u_ v_ (by omega))).trans (m_3 u_ v_ (by omega))))
                              · refine g_aload_n (n := 233) hx 3 (dq tX7_pass 117 rfl) rfl rfl ?_
                                refine g_getR (n := 236) hx glX7_9 (sX7_0 (by decide)) (dq tX7_pass 118 rfl) rfl ?_
                                refine g_aload_n (n := 237) hx 3 (dq tX7_pass 119 rfl) rfl rfl ?_
                                refine g_getI (n := 240) hx glX7_22 (sX7_3 (by decide)) (dq tX7_pass 120 rfl) rfl (fun h_868l h_868u => ?_)
                                refine g_iald (n := 241) (q := (M_854 7 3).toNat) hx (aX7_0 (b := 7) (by decide)) (dq tX7_pass 121 rfl) rfl (by omega) (by omega) (by omega) rfl (fun h_869l h_869u => ?_)
                                refine g_iload_n (n := 242) hx 0 (dq tX7_pass 122 rfl) rfl rfl ?_
                                refine g_icmp_gt (n := 245) (t := 258) hx (dq tX7_pass 123 rfl) (by decide) rfl (zrI h_869l h_869u (by decide) (by decide)) ⟨by decide, by decide⟩ (fun c_870 => ?_) (fun c_870 => ?_)
                                · exact g_vret hx hr (dq tX7_pass 131 rfl) (fun u_ v_ huv_ => (((((f_857 u_ v_ (by omega)).trans (m_756 u_ v_ (by omega))).trans (m_606 u_ v_ (by omega))).trans (f_7 u_ v_ (by omega))).trans (m_3 u_ v_ (by omega))))
                                · refine g_aload_n (n := 246) hx 3 (dq tX7_pass 124 rfl) rfl rfl ?_
                                  refine g_dup (n := 247) hx (dq tX7_pass 125 rfl) rfl rfl ?_
                                  refine g_getI (n := 250) hx glX7_22 (sX7_3 (by decide)) (dq tX7_pass 126 rfl) rfl (fun h_871l h_871u => ?_)
                                  refine g_iconst (n := 251) hx (dq tX7_pass 127 rfl) rfl ?_
                                  refine g_iadd (n := 252) hx (dq tX7_pass 128 rfl) rfl ?_
                                  refine g_putI (n := 255) hx plX7_22 (sX7_3 (by decide)) (dq tX7_pass 129 rfl) rfl (by omega) (by omega) (fun M_872 m_873e m_873 => ?_)
                                  refine g_goto (n := 200) hx (dq tX7_pass 130 rfl) (by decide) ?_
                                  exact ih_856 _ (by omega) M_872 (fun u_ v_ huv_ => ((m_873 u_ v_ (by omega)).trans (f_857 u_ v_ (by omega)))) rfl
                      exact L_855 _ M_755 (fun _ _ _ => rfl) rfl
                · refine g_bipush (n := 135) hx (dq tX7_pass 66 rfl) rfl (by decide) ?_
                  refine g_istore_n (n := 136) (lv' := [(1, vI 61), (3, vI (M_755 7 1)), (2, vI 256), (0, aR Γ 7)]) hx (dq tX7_pass 67 rfl) (by decide) rfl rfl ?_
                  refine g_bipush (n := 138) hx (dq tX7_pass 68 rfl) rfl (by decide) ?_
                  refine g_istore_n (n := 139) (lv' := [(2, vI 61), (1, vI 61), (3, vI (M_755 7 1)), (0, aR Γ 7)]) hx (dq tX7_pass 69 rfl) (by decide) rfl rfl ?_
                  refine g_aload_n (n := 140) hx 3 (dq tX7_pass 70 rfl) rfl rfl ?_
                  refine g_getI (n := 143) hx glX7_28 (sX7_2 (by decide)) (dq tX7_pass 71 rfl) rfl (fun h_874l h_874u => ?_)
                  have e_875 : M_755 7 2 = M_605 7 2 := (m_756 7 2 (by omega))
                  refine g_iconst (n := 144) hx (dq tX7_pass 72 rfl) rfl ?_
                  refine g_iadd (n := 145) hx (dq tX7_pass 73 rfl) rfl ?_
                  refine g_istore_n (n := 146) (lv' := [(3, vI ((M_755 7 2) + 2)), (2, vI 61), (1, vI 61), (0, aR Γ 7)]) hx (dq tX7_pass 74 rfl) (by decide) rfl rfl ?_
                  refine g_goto (n := 200) hx (dq tX7_pass 75 rfl) (by decide) ?_
                  have L_877 : ∀ (n_ : Nat) (M_876 : zM), (∀ u_ v_, (u_ ≠ 7 ∨ v_ ≠ 3) → M_876 u_ v_ = M_755 u_ v_) → ((400 - M_876 7 3).toNat = n_) → G Γ x 4 (QV Γ x (qctX7_pass M)) M_876 200 [(3, vI ((M_755 7 2) + 2)), (2, vI 61), (1, vI 61), (0, aR Γ 7)] [] := by
                    intro n_
                    induction n_ using Nat.strongRecOn with
                    | _ n_ ih_878 =>
                      intro M_876 f_879 hm_880
                      refine g_aload_n (n := 201) hx 3 (dq tX7_pass 101 rfl) rfl rfl ?_
                      refine g_getI (n := 204) hx glX7_22 (sX7_3 (by decide)) (dq tX7_pass 102 rfl) rfl (fun h_881l h_881u => ?_)
                      refine g_aload_n (n := 205) hx 3 (dq tX7_pass 103 rfl) rfl rfl ?_
                      refine g_getI (n := 208) hx glX7_15 (sX7_1 (by decide)) (dq tX7_pass 104 rfl) rfl (fun h_882l h_882u => ?_)
                      have e_883 : M_876 7 1 = M_755 7 1 := (f_879 7 1 (by omega))
                      refine g_icmp_ge (n := 211) (t := 258) hx (dq tX7_pass 105 rfl) (by decide) rfl (zrI h_881l h_881u (by decide) (by decide)) (zrI h_882l h_882u (by decide) (by decide)) (fun c_884 => ?_) (fun c_884 => ?_)
                      · exact g_vret hx hr (dq tX7_pass 131 rfl) (fun u_ v_ huv_ => (((((f_879 u_ v_ (by omega)).trans (m_756 u_ v_ (by omega))).trans (m_606 u_ v_ (by omega))).trans (f_7 u_ v_ (by omega))).trans (m_3 u_ v_ (by omega))))
                      · refine g_aload_n (n := 212) hx 3 (dq tX7_pass 106 rfl) rfl rfl ?_
                        refine g_getI (n := 215) hx glX7_22 (sX7_3 (by decide)) (dq tX7_pass 107 rfl) rfl (fun h_885l h_885u => ?_)
                        refine g_iload_n (n := 216) hx 0 (dq tX7_pass 108 rfl) rfl rfl ?_
                        refine g_icmp_ge (n := 219) (t := 258) hx (dq tX7_pass 109 rfl) (by decide) rfl (zrI h_885l h_885u (by decide) (by decide)) ⟨by omega, by omega⟩ (fun c_886 => ?_) (fun c_886 => ?_)
                        · exact g_vret hx hr (dq tX7_pass 131 rfl) (fun u_ v_ huv_ => (((((f_879 u_ v_ (by omega)).trans (m_756 u_ v_ (by omega))).trans (m_606 u_ v_ (by omega))).trans (f_7 u_ v_ (by omega))).trans (m_3 u_ v_ (by omega))))
                        · refine g_aload_n (n := 220) hx 3 (dq tX7_pass 110 rfl) rfl rfl ?_
                          refine g_getR (n := 223) hx glX7_9 (sX7_0 (by decide)) (dq tX7_pass 111 rfl) rfl ?_
                          refine g_aload_n (n := 224) hx 3 (dq tX7_pass 112 rfl) rfl rfl ?_
                          refine g_getI (n := 227) hx glX7_22 (sX7_3 (by decide)) (dq tX7_pass 113 rfl) rfl (fun h_887l h_887u => ?_)
                          refine g_iald (n := 228) (q := (M_876 7 3).toNat) hx (aX7_0 (b := 7) (by decide)) (dq tX7_pass 114 rfl) rfl (by omega) (by omega) (by omega) rfl (fun h_888l h_888u => ?_)
                          refine g_iload_n (n := 229) hx 2 (dq tX7_pass 115 rfl) rfl rfl ?_
                          refine g_icmp_lt (n := 232) (t := 258) hx (dq tX7_pass 116 rfl) (by decide) rfl (zrI h_888l h_888u (by decide) (by decide)) ⟨by decide, by decide⟩ (fun c_889 => ?_) (fun c_889 => ?_)
                          · exact g_vret hx hr (dq tX7_pass 131 rfl) (fun u_ v_ huv_ => (((((f_879 u_ v_ (by omega)).trans (m_756 u_ v_ (by omega))).trans (m_606 u_ v_ (by omega))).trans (f_7 u_ v_ (by omega))).trans (m_3 u_ v_ (by omega))))
                          · refine g_aload_n (n := 233) hx 3 (dq tX7_pass 117 rfl) rfl rfl ?_
                            refine g_getR (n := 236) hx glX7_9 (sX7_0 (by decide)) (dq tX7_pass 118 rfl) rfl ?_
                            refine g_aload_n (n := 237) hx 3 (dq tX7_pass 119 rfl) rfl rfl ?_
                            refine g_getI (n := 240) hx glX7_22 (sX7_3 (by decide)) (dq tX7_pass 120 rfl) rfl (fun h_890l h_890u => ?_)
                            refine g_iald (n := 241) (q := (M_876 7 3).toNat) hx (aX7_0 (b := 7) (by decide)) (dq tX7_pass 121 rfl) rfl (by omega) (by omega) (by omega) rfl (fun h_891l h_891u => ?_)
                            refine g_iload_n (n := 242) hx 1 (dq tX7_pass 122 rfl) rfl rfl ?_
                            refine g_icmp_gt (n := 245) (t := 258) hx (dq tX7_pass 123 rfl) (by decide) rfl (zrI h_891l h_891u (by decide) (by decide)) ⟨by decide, by decide⟩ (fun c_892 => ?_) (fun c_892 => ?_)
                            · exact g_vret hx hr (dq tX7_pass 131 rfl) (fun u_ v_ huv_ => (((((f_879 u_ v_ (by omega)).trans (m_756 u_ v_ (by omega))).trans (m_606 u_ v_ (by omega))).trans (f_7 u_ v_ (by omega))).trans (m_3 u_ v_ (by omega))))
                            · refine g_aload_n (n := 246) hx 3 (dq tX7_pass 124 rfl) rfl rfl ?_
                              refine g_dup (n := 247) hx (dq tX7_pass 125 rfl) rfl rfl ?_
                              refine g_getI (n := 250) hx glX7_22 (sX7_3 (by decide)) (dq tX7_pass 126 rfl) rfl (fun h_893l h_893u => ?_)
                              refine g_iconst (n := 251) hx (dq tX7_pass 127 rfl) rfl ?_
                              refine g_iadd (n := 252) hx (dq tX7_pass 128 rfl) rfl ?_
                              refine g_putI (n := 255) hx plX7_22 (sX7_3 (by decide)) (dq tX7_pass 129 rfl) rfl (by omega) (by omega) (fun M_894 m_895e m_895 => ?_)
                              refine g_goto (n := 200) hx (dq tX7_pass 130 rfl) (by decide) ?_
                              exact ih_878 _ (by omega) M_894 (fun u_ v_ huv_ => ((m_895 u_ v_ (by omega)).trans (f_879 u_ v_ (by omega)))) rfl
                  exact L_877 _ M_755 (fun _ _ _ => rfl) rfl
          · refine g_aload_n (n := 59) hx 0 (dq tX7_pass 29 rfl) rfl rfl ?_
            refine g_getR (n := 62) hx glX7_9 (sX7_0 (by decide)) (dq tX7_pass 30 rfl) rfl ?_
            refine g_aload_n (n := 63) hx 0 (dq tX7_pass 31 rfl) rfl rfl ?_
            refine g_getI (n := 66) hx glX7_28 (sX7_2 (by decide)) (dq tX7_pass 32 rfl) rfl (fun h_896l h_896u => ?_)
            refine g_iald (n := 67) (q := (M_4 7 2).toNat) hx (aX7_0 (b := 7) (by decide)) (dq tX7_pass 33 rfl) rfl (by omega) (by omega) (by omega) rfl (fun h_897l h_897u => ?_)
            refine g_goto (n := 71) hx (dq tX7_pass 34 rfl) (by decide) ?_
            refine g_putI (n := 74) hx plX7_31 (sX7_4 (by decide)) (dq tX7_pass 36 rfl) rfl (by omega) (by omega) (fun M_898 m_899e m_899 => ?_)
            refine g_aload_n (n := 75) hx 0 (dq tX7_pass 37 rfl) rfl rfl ?_
            refine g_aload_n (n := 76) hx 0 (dq tX7_pass 38 rfl) rfl rfl ?_
            refine g_getI (n := 79) hx glX7_28 (sX7_2 (by decide)) (dq tX7_pass 39 rfl) rfl (fun h_900l h_900u => ?_)
            have e_901 : M_898 7 2 = M_4 7 2 := (m_899 7 2 (by omega))
            refine g_aload_n (n := 80) hx 0 (dq tX7_pass 40 rfl) rfl rfl ?_
            refine g_getI (n := 83) hx glX7_15 (sX7_1 (by decide)) (dq tX7_pass 41 rfl) rfl (fun h_902l h_902u => ?_)
            have e_903 : M_898 7 1 = M_4 7 1 := (m_899 7 1 (by omega))
            refine g_icmp_ge (n := 86) (t := 95) hx (dq tX7_pass 42 rfl) (by decide) rfl (zrI h_900l h_900u (by decide) (by decide)) (zrI h_902l h_902u (by decide) (by decide)) (fun c_904 => ?_) (fun c_904 => ?_)
            · refine g_aload_n (n := 96) hx 0 (dq tX7_pass 48 rfl) rfl rfl ?_
              refine g_getI (n := 99) hx glX7_15 (sX7_1 (by decide)) (dq tX7_pass 49 rfl) rfl (fun h_905l h_905u => ?_)
              refine g_putI (n := 102) hx plX7_22 (sX7_3 (by decide)) (dq tX7_pass 50 rfl) rfl (by omega) (by omega) (fun M_906 m_907e m_907 => ?_)
              refine g_sipush (n := 105) hx (dq tX7_pass 51 rfl) rfl (by decide) ?_
              refine g_istore_n (n := 106) (lv' := [(1, vI 256), (0, aR Γ 7)]) hx (dq tX7_pass 52 rfl) (by decide) rfl rfl ?_
              refine g_sipush (n := 109) hx (dq tX7_pass 53 rfl) rfl (by decide) ?_
              refine g_istore_n (n := 110) (lv' := [(2, vI 256), (1, vI 256), (0, aR Γ 7)]) hx (dq tX7_pass 54 rfl) (by decide) rfl rfl ?_
              refine g_aload_n (n := 111) hx 2 (dq tX7_pass 55 rfl) rfl rfl ?_
              refine g_getI (n := 114) hx glX7_15 (sX7_1 (by decide)) (dq tX7_pass 56 rfl) rfl (fun h_908l h_908u => ?_)
              have e_909 : M_906 7 1 = M_898 7 1 := (m_907 7 1 (by omega))
              refine g_istore_n (n := 115) (lv' := [(3, vI (M_906 7 1)), (2, vI 256), (1, vI 256), (0, aR Γ 7)]) hx (dq tX7_pass 57 rfl) (by decide) rfl rfl ?_
              refine g_aload_n (n := 116) hx 3 (dq tX7_pass 58 rfl) rfl rfl ?_
              refine g_getI (n := 119) hx glX7_31 (sX7_4 (by decide)) (dq tX7_pass 59 rfl) rfl (fun h_910l h_910u => ?_)
              have e_911 : M_906 7 4 = M_898 7 4 := (m_907 7 4 (by omega))
              refine g_bipush (n := 121) hx (dq tX7_pass 60 rfl) rfl (by decide) ?_
              refine g_icmp_eq (n := 124) (t := 133) hx (dq tX7_pass 61 rfl) (by decide) rfl (zrI h_910l h_910u (by decide) (by decide)) ⟨by decide, by decide⟩ (fun c_912 => ?_) (fun c_912 => ?_)
              · refine g_bipush (n := 135) hx (dq tX7_pass 66 rfl) rfl (by decide) ?_
                refine g_istore_n (n := 136) (lv' := [(1, vI 61), (3, vI (M_906 7 1)), (2, vI 256), (0, aR Γ 7)]) hx (dq tX7_pass 67 rfl) (by decide) rfl rfl ?_
                refine g_bipush (n := 138) hx (dq tX7_pass 68 rfl) rfl (by decide) ?_
                refine g_istore_n (n := 139) (lv' := [(2, vI 61), (1, vI 61), (3, vI (M_906 7 1)), (0, aR Γ 7)]) hx (dq tX7_pass 69 rfl) (by decide) rfl rfl ?_
                refine g_aload_n (n := 140) hx 3 (dq tX7_pass 70 rfl) rfl rfl ?_
                refine g_getI (n := 143) hx glX7_28 (sX7_2 (by decide)) (dq tX7_pass 71 rfl) rfl (fun h_913l h_913u => ?_)
                have e_914 : M_906 7 2 = M_898 7 2 := (m_907 7 2 (by omega))
                refine g_iconst (n := 144) hx (dq tX7_pass 72 rfl) rfl ?_
                refine g_iadd (n := 145) hx (dq tX7_pass 73 rfl) rfl ?_
                refine g_istore_n (n := 146) (lv' := [(3, vI ((M_906 7 2) + 2)), (2, vI 61), (1, vI 61), (0, aR Γ 7)]) hx (dq tX7_pass 74 rfl) (by decide) rfl rfl ?_
                refine g_goto (n := 200) hx (dq tX7_pass 75 rfl) (by decide) ?_
                have L_916 : ∀ (n_ : Nat) (M_915 : zM), (∀ u_ v_, (u_ ≠ 7 ∨ v_ ≠ 3) → M_915 u_ v_ = M_906 u_ v_) → ((400 - M_915 7 3).toNat = n_) → G Γ x 4 (QV Γ x (qctX7_pass M)) M_915 200 [(3, vI ((M_906 7 2) + 2)), (2, vI 61), (1, vI 61), (0, aR Γ 7)] [] := by
                  intro n_
                  induction n_ using Nat.strongRecOn with
                  | _ n_ ih_917 =>
                    intro M_915 f_918 hm_919
                    refine g_aload_n (n := 201) hx 3 (dq tX7_pass 101 rfl) rfl rfl ?_
                    refine g_getI (n := 204) hx glX7_22 (sX7_3 (by decide)) (dq tX7_pass 102 rfl) rfl (fun h_920l h_920u => ?_)
                    refine g_aload_n (n := 205) hx 3 (dq tX7_pass 103 rfl) rfl rfl ?_
                    refine g_getI (n := 208) hx glX7_15 (sX7_1 (by decide)) (dq tX7_pass 104 rfl) rfl (fun h_921l h_921u => ?_)
                    have e_922 : M_915 7 1 = M_906 7 1 := (f_918 7 1 (by omega))
                    refine g_icmp_ge (n := 211) (t := 258) hx (dq tX7_pass 105 rfl) (by decide) rfl (zrI h_920l h_920u (by decide) (by decide)) (zrI h_921l h_921u (by decide) (by decide)) (fun c_923 => ?_) (fun c_923 => ?_)
                    · exact g_vret hx hr (dq tX7_pass 131 rfl) (fun u_ v_ huv_ => (((((f_918 u_ v_ (by omega)).trans (m_907 u_ v_ (by omega))).trans (m_899 u_ v_ (by omega))).trans (f_7 u_ v_ (by omega))).trans (m_3 u_ v_ (by omega))))
                    · refine g_aload_n (n := 212) hx 3 (dq tX7_pass 106 rfl) rfl rfl ?_
                      refine g_getI (n := 215) hx glX7_22 (sX7_3 (by decide)) (dq tX7_pass 107 rfl) rfl (fun h_924l h_924u => ?_)
                      refine g_iload_n (n := 216) hx 0 (dq tX7_pass 108 rfl) rfl rfl ?_
                      refine g_icmp_ge (n := 219) (t := 258) hx (dq tX7_pass 109 rfl) (by decide) rfl (zrI h_924l h_924u (by decide) (by decide)) ⟨by omega, by omega⟩ (fun c_925 => ?_) (fun c_925 => ?_)
                      · exact g_vret hx hr (dq tX7_pass 131 rfl) (fun u_ v_ huv_ => (((((f_918 u_ v_ (by omega)).trans (m_907 u_ v_ (by omega))).trans (m_899 u_ v_ (by omega))).trans (f_7 u_ v_ (by omega))).trans (m_3 u_ v_ (by omega))))
                      · refine g_aload_n (n := 220) hx 3 (dq tX7_pass 110 rfl) rfl rfl ?_
                        refine g_getR (n := 223) hx glX7_9 (sX7_0 (by decide)) (dq tX7_pass 111 rfl) rfl ?_
                        refine g_aload_n (n := 224) hx 3 (dq tX7_pass 112 rfl) rfl rfl ?_
                        refine g_getI (n := 227) hx glX7_22 (sX7_3 (by decide)) (dq tX7_pass 113 rfl) rfl (fun h_926l h_926u => ?_)
                        refine g_iald (n := 228) (q := (M_915 7 3).toNat) hx (aX7_0 (b := 7) (by decide)) (dq tX7_pass 114 rfl) rfl (by omega) (by omega) (by omega) rfl (fun h_927l h_927u => ?_)
                        refine g_iload_n (n := 229) hx 2 (dq tX7_pass 115 rfl) rfl rfl ?_
                        refine g_icmp_lt (n := 232) (t := 258) hx (dq tX7_pass 116 rfl) (by decide) rfl (zrI h_927l h_927u (by decide) (by decide)) ⟨by decide, by decide⟩ (fun c_928 => ?_) (fun c_928 => ?_)
                        · exact g_vret hx hr (dq tX7_pass 131 rfl) (fun u_ v_ huv_ => (((((f_918 u_ v_ (by omega)).trans (m_907 u_ v_ (by omega))).trans (m_899 u_ v_ (by omega))).trans (f_7 u_ v_ (by omega))).trans (m_3 u_ v_ (by omega))))
                        · refine g_aload_n (n := 233) hx 3 (dq tX7_pass 117 rfl) rfl rfl ?_
                          refine g_getR (n := 236) hx glX7_9 (sX7_0 (by decide)) (dq tX7_pass 118 rfl) rfl ?_
                          refine g_aload_n (n := 237) hx 3 (dq tX7_pass 119 rfl) rfl rfl ?_
                          refine g_getI (n := 240) hx glX7_22 (sX7_3 (by decide)) (dq tX7_pass 120 rfl) rfl (fun h_929l h_929u => ?_)
                          refine g_iald (n := 241) (q := (M_915 7 3).toNat) hx (aX7_0 (b := 7) (by decide)) (dq tX7_pass 121 rfl) rfl (by omega) (by omega) (by omega) rfl (fun h_930l h_930u => ?_)
                          refine g_iload_n (n := 242) hx 1 (dq tX7_pass 122 rfl) rfl rfl ?_
                          refine g_icmp_gt (n := 245) (t := 258) hx (dq tX7_pass 123 rfl) (by decide) rfl (zrI h_930l h_930u (by decide) (by decide)) ⟨by decide, by decide⟩ (fun c_931 => ?_) (fun c_931 => ?_)
                          · exact g_vret hx hr (dq tX7_pass 131 rfl) (fun u_ v_ huv_ => (((((f_918 u_ v_ (by omega)).trans (m_907 u_ v_ (by omega))).trans (m_899 u_ v_ (by omega))).trans (f_7 u_ v_ (by omega))).trans (m_3 u_ v_ (by omega))))
                          · refine g_aload_n (n := 246) hx 3 (dq tX7_pass 124 rfl) rfl rfl ?_
                            refine g_dup (n := 247) hx (dq tX7_pass 125 rfl) rfl rfl ?_
                            refine g_getI (n := 250) hx glX7_22 (sX7_3 (by decide)) (dq tX7_pass 126 rfl) rfl (fun h_932l h_932u => ?_)
                            refine g_iconst (n := 251) hx (dq tX7_pass 127 rfl) rfl ?_
                            refine g_iadd (n := 252) hx (dq tX7_pass 128 rfl) rfl ?_
                            refine g_putI (n := 255) hx plX7_22 (sX7_3 (by decide)) (dq tX7_pass 129 rfl) rfl (by omega) (by omega) (fun M_933 m_934e m_934 => ?_)
                            refine g_goto (n := 200) hx (dq tX7_pass 130 rfl) (by decide) ?_
                            exact ih_917 _ (by omega) M_933 (fun u_ v_ huv_ => ((m_934 u_ v_ (by omega)).trans (f_918 u_ v_ (by omega)))) rfl
                exact L_916 _ M_906 (fun _ _ _ => rfl) rfl
              · refine g_aload_n (n := 125) hx 3 (dq tX7_pass 62 rfl) rfl rfl ?_
                refine g_getI (n := 128) hx glX7_31 (sX7_4 (by decide)) (dq tX7_pass 63 rfl) rfl (fun h_935l h_935u => ?_)
                refine g_bipush (n := 130) hx (dq tX7_pass 64 rfl) rfl (by decide) ?_
                refine g_icmp_ne (n := 133) (t := 149) hx (dq tX7_pass 65 rfl) (by decide) rfl (zrI h_935l h_935u (by decide) (by decide)) ⟨by decide, by decide⟩ (fun c_936 => ?_) (fun c_936 => ?_)
                · refine g_aload_n (n := 150) hx 3 (dq tX7_pass 76 rfl) rfl rfl ?_
                  refine g_getI (n := 153) hx glX7_31 (sX7_4 (by decide)) (dq tX7_pass 77 rfl) rfl (fun h_937l h_937u => ?_)
                  refine g_bipush (n := 155) hx (dq tX7_pass 78 rfl) rfl (by decide) ?_
                  refine g_icmp_lt (n := 158) (t := 176) hx (dq tX7_pass 79 rfl) (by decide) rfl (zrI h_937l h_937u (by decide) (by decide)) ⟨by decide, by decide⟩ (fun c_938 => ?_) (fun c_938 => ?_)
                  · refine g_aload_n (n := 177) hx 3 (dq tX7_pass 89 rfl) rfl rfl ?_
                    refine g_getI (n := 180) hx glX7_31 (sX7_4 (by decide)) (dq tX7_pass 90 rfl) rfl (fun h_939l h_939u => ?_)
                    refine g_bipush (n := 182) hx (dq tX7_pass 91 rfl) rfl (by decide) ?_
                    refine g_icmp_lt (n := 185) (t := 200) hx (dq tX7_pass 92 rfl) (by decide) rfl (zrI h_939l h_939u (by decide) (by decide)) ⟨by decide, by decide⟩ (fun c_940 => ?_) (fun c_940 => ?_)
                    · have L_941 : ∀ (n_ : Nat), ((400 - M_906 7 3).toNat = n_) → G Γ x 4 (QV Γ x (qctX7_pass M)) M_906 200 [(3, vI (M_906 7 1)), (2, vI 256), (1, vI 256), (0, aR Γ 7)] [] := by
                        intro n_
                        induction n_ using Nat.strongRecOn with
                        | _ n_ ih_942 =>
                          intro hm_944
                          refine g_aload_n (n := 201) hx 3 (dq tX7_pass 101 rfl) rfl rfl ?_
                          refine g_getI (n := 204) hx glX7_22 (sX7_3 (by decide)) (dq tX7_pass 102 rfl) rfl (fun h_945l h_945u => ?_)
                          refine g_aload_n (n := 205) hx 3 (dq tX7_pass 103 rfl) rfl rfl ?_
                          refine g_getI (n := 208) hx glX7_15 (sX7_1 (by decide)) (dq tX7_pass 104 rfl) rfl (fun h_946l h_946u => ?_)
                          refine g_icmp_ge (n := 211) (t := 258) hx (dq tX7_pass 105 rfl) (by decide) rfl (zrI h_945l h_945u (by decide) (by decide)) (zrI h_946l h_946u (by decide) (by decide)) (fun c_947 => ?_) (fun c_947 => ?_)
                          · exact g_vret hx hr (dq tX7_pass 131 rfl) (fun u_ v_ huv_ => ((((m_907 u_ v_ (by omega)).trans (m_899 u_ v_ (by omega))).trans (f_7 u_ v_ (by omega))).trans (m_3 u_ v_ (by omega))))
                          · refine g_aload_n (n := 212) hx 3 (dq tX7_pass 106 rfl) rfl rfl ?_
                            refine g_getI (n := 215) hx glX7_22 (sX7_3 (by decide)) (dq tX7_pass 107 rfl) rfl (fun h_948l h_948u => ?_)
                            refine g_iload_n (n := 216) hx 0 (dq tX7_pass 108 rfl) rfl rfl ?_
                            refine g_icmp_ge (n := 219) (t := 258) hx (dq tX7_pass 109 rfl) (by decide) rfl (zrI h_948l h_948u (by decide) (by decide)) (zrI h_908l h_908u (by decide) (by decide)) (fun c_949 => ?_) (fun c_949 => ?_)
                            · exact g_vret hx hr (dq tX7_pass 131 rfl) (fun u_ v_ huv_ => ((((m_907 u_ v_ (by omega)).trans (m_899 u_ v_ (by omega))).trans (f_7 u_ v_ (by omega))).trans (m_3 u_ v_ (by omega))))
                            · refine g_aload_n (n := 220) hx 3 (dq tX7_pass 110 rfl) rfl rfl ?_
                              refine g_getR (n := 223) hx glX7_9 (sX7_0 (by decide)) (dq tX7_pass 111 rfl) rfl ?_
                              refine g_aload_n (n := 224) hx 3 (dq tX7_pass 112 rfl) rfl rfl ?_
                              refine g_getI (n := 227) hx glX7_22 (sX7_3 (by decide)) (dq tX7_pass 113 rfl) rfl (fun h_950l h_950u => ?_)
                              refine g_iald (n := 228) (q := (M_906 7 3).toNat) hx (aX7_0 (b := 7) (by decide)) (dq tX7_pass 114 rfl) rfl (by omega) (by omega) (by omega) rfl (fun h_951l h_951u => ?_)
                              refine g_iload_n (n := 229) hx 2 (dq tX7_pass 115 rfl) rfl rfl ?_
                              refine g_icmp_lt (n := 232) (t := 258) hx (dq tX7_pass 116 rfl) (by decide) rfl (zrI h_951l h_951u (by decide) (by decide)) ⟨by decide, by decide⟩ (fun c_952 => ?_) (fun c_952 => ?_)
                              · exact g_vret hx hr (dq tX7_pass 131 rfl) (fun u_ v_ huv_ => ((((m_907 u_ v_ (by omega)).trans (m_899 u_ v_ (by omega))).trans (f_7 u_ v_ (by omega))).trans (m_3 u_ v_ (by omega))))
                              · omega
                      exact L_941 _ rfl
                    · refine g_aload_n (n := 186) hx 3 (dq tX7_pass 93 rfl) rfl rfl ?_
                      refine g_getI (n := 189) hx glX7_31 (sX7_4 (by decide)) (dq tX7_pass 94 rfl) rfl (fun h_953l h_953u => ?_)
                      refine g_bipush (n := 191) hx (dq tX7_pass 95 rfl) rfl (by decide) ?_
                      refine g_icmp_gt (n := 194) (t := 200) hx (dq tX7_pass 96 rfl) (by decide) rfl (zrI h_953l h_953u (by decide) (by decide)) ⟨by decide, by decide⟩ (fun c_954 => ?_) (fun c_954 => ?_)
                      · have L_955 : ∀ (n_ : Nat), ((400 - M_906 7 3).toNat = n_) → G Γ x 4 (QV Γ x (qctX7_pass M)) M_906 200 [(3, vI (M_906 7 1)), (2, vI 256), (1, vI 256), (0, aR Γ 7)] [] := by
                          intro n_
                          induction n_ using Nat.strongRecOn with
                          | _ n_ ih_956 =>
                            intro hm_958
                            refine g_aload_n (n := 201) hx 3 (dq tX7_pass 101 rfl) rfl rfl ?_
                            refine g_getI (n := 204) hx glX7_22 (sX7_3 (by decide)) (dq tX7_pass 102 rfl) rfl (fun h_959l h_959u => ?_)
                            refine g_aload_n (n := 205) hx 3 (dq tX7_pass 103 rfl) rfl rfl ?_
                            refine g_getI (n := 208) hx glX7_15 (sX7_1 (by decide)) (dq tX7_pass 104 rfl) rfl (fun h_960l h_960u => ?_)
                            refine g_icmp_ge (n := 211) (t := 258) hx (dq tX7_pass 105 rfl) (by decide) rfl (zrI h_959l h_959u (by decide) (by decide)) (zrI h_960l h_960u (by decide) (by decide)) (fun c_961 => ?_) (fun c_961 => ?_)
                            · exact g_vret hx hr (dq tX7_pass 131 rfl) (fun u_ v_ huv_ => ((((m_907 u_ v_ (by omega)).trans (m_899 u_ v_ (by omega))).trans (f_7 u_ v_ (by omega))).trans (m_3 u_ v_ (by omega))))
                            · refine g_aload_n (n := 212) hx 3 (dq tX7_pass 106 rfl) rfl rfl ?_
                              refine g_getI (n := 215) hx glX7_22 (sX7_3 (by decide)) (dq tX7_pass 107 rfl) rfl (fun h_962l h_962u => ?_)
                              refine g_iload_n (n := 216) hx 0 (dq tX7_pass 108 rfl) rfl rfl ?_
                              refine g_icmp_ge (n := 219) (t := 258) hx (dq tX7_pass 109 rfl) (by decide) rfl (zrI h_962l h_962u (by decide) (by decide)) (zrI h_908l h_908u (by decide) (by decide)) (fun c_963 => ?_) (fun c_963 => ?_)
                              · exact g_vret hx hr (dq tX7_pass 131 rfl) (fun u_ v_ huv_ => ((((m_907 u_ v_ (by omega)).trans (m_899 u_ v_ (by omega))).trans (f_7 u_ v_ (by omega))).trans (m_3 u_ v_ (by omega))))
                              · refine g_aload_n (n := 220) hx 3 (dq tX7_pass 110 rfl) rfl rfl ?_
                                refine g_getR (n := 223) hx glX7_9 (sX7_0 (by decide)) (dq tX7_pass 111 rfl) rfl ?_
                                refine g_aload_n (n := 224) hx 3 (dq tX7_pass 112 rfl) rfl rfl ?_
                                refine g_getI (n := 227) hx glX7_22 (sX7_3 (by decide)) (dq tX7_pass 113 rfl) rfl (fun h_964l h_964u => ?_)
                                refine g_iald (n := 228) (q := (M_906 7 3).toNat) hx (aX7_0 (b := 7) (by decide)) (dq tX7_pass 114 rfl) rfl (by omega) (by omega) (by omega) rfl (fun h_965l h_965u => ?_)
                                refine g_iload_n (n := 229) hx 2 (dq tX7_pass 115 rfl) rfl rfl ?_
                                refine g_icmp_lt (n := 232) (t := 258) hx (dq tX7_pass 116 rfl) (by decide) rfl (zrI h_965l h_965u (by decide) (by decide)) ⟨by decide, by decide⟩ (fun c_966 => ?_) (fun c_966 => ?_)
                                · exact g_vret hx hr (dq tX7_pass 131 rfl) (fun u_ v_ huv_ => ((((m_907 u_ v_ (by omega)).trans (m_899 u_ v_ (by omega))).trans (f_7 u_ v_ (by omega))).trans (m_3 u_ v_ (by omega))))
                                · omega
                        exact L_955 _ rfl
                      · refine g_bipush (n := 196) hx (dq tX7_pass 97 rfl) rfl (by decide) ?_
                        refine g_istore_n (n := 197) (lv' := [(1, vI 48), (3, vI (M_906 7 1)), (2, vI 256), (0, aR Γ 7)]) hx (dq tX7_pass 98 rfl) (by decide) rfl rfl ?_
                        refine g_bipush (n := 199) hx (dq tX7_pass 99 rfl) rfl (by decide) ?_
                        refine g_istore_n (n := 200) (lv' := [(2, vI 57), (1, vI 48), (3, vI (M_906 7 1)), (0, aR Γ 7)]) hx (dq tX7_pass 100 rfl) (by decide) rfl rfl ?_
                        have L_968 : ∀ (n_ : Nat) (M_967 : zM), (∀ u_ v_, (u_ ≠ 7 ∨ v_ ≠ 3) → M_967 u_ v_ = M_906 u_ v_) → ((400 - M_967 7 3).toNat = n_) → G Γ x 4 (QV Γ x (qctX7_pass M)) M_967 200 [(2, vI 57), (1, vI 48), (3, vI (M_906 7 1)), (0, aR Γ 7)] [] := by
                          intro n_
                          induction n_ using Nat.strongRecOn with
                          | _ n_ ih_969 =>
                            intro M_967 f_970 hm_971
                            refine g_aload_n (n := 201) hx 3 (dq tX7_pass 101 rfl) rfl rfl ?_
                            refine g_getI (n := 204) hx glX7_22 (sX7_3 (by decide)) (dq tX7_pass 102 rfl) rfl (fun h_972l h_972u => ?_)
                            refine g_aload_n (n := 205) hx 3 (dq tX7_pass 103 rfl) rfl rfl ?_
                            refine g_getI (n := 208) hx glX7_15 (sX7_1 (by decide)) (dq tX7_pass 104 rfl) rfl (fun h_973l h_973u => ?_)
                            have e_974 : M_967 7 1 = M_906 7 1 := (f_970 7 1 (by omega))
                            refine g_icmp_ge (n := 211) (t := 258) hx (dq tX7_pass 105 rfl) (by decide) rfl (zrI h_972l h_972u (by decide) (by decide)) (zrI h_973l h_973u (by decide) (by decide)) (fun c_975 => ?_) (fun c_975 => ?_)
                            · exact g_vret hx hr (dq tX7_pass 131 rfl) (fun u_ v_ huv_ => (((((f_970 u_ v_ (by omega)).trans (m_907 u_ v_ (by omega))).trans (m_899 u_ v_ (by omega))).trans (f_7 u_ v_ (by omega))).trans (m_3 u_ v_ (by omega))))
                            · refine g_aload_n (n := 212) hx 3 (dq tX7_pass 106 rfl) rfl rfl ?_
                              refine g_getI (n := 215) hx glX7_22 (sX7_3 (by decide)) (dq tX7_pass 107 rfl) rfl (fun h_976l h_976u => ?_)
                              refine g_iload_n (n := 216) hx 2 (dq tX7_pass 108 rfl) rfl rfl ?_
                              refine g_icmp_ge (n := 219) (t := 258) hx (dq tX7_pass 109 rfl) (by decide) rfl (zrI h_976l h_976u (by decide) (by decide)) (zrI h_908l h_908u (by decide) (by decide)) (fun c_977 => ?_) (fun c_977 => ?_)
                              · exact g_vret hx hr (dq tX7_pass 131 rfl) (fun u_ v_ huv_ => (((((f_970 u_ v_ (by omega)).trans (m_907 u_ v_ (by omega))).trans (m_899 u_ v_ (by omega))).trans (f_7 u_ v_ (by omega))).trans (m_3 u_ v_ (by omega))))
                              · refine g_aload_n (n := 220) hx 3 (dq tX7_pass 110 rfl) rfl rfl ?_
                                refine g_getR (n := 223) hx glX7_9 (sX7_0 (by decide)) (dq tX7_pass 111 rfl) rfl ?_
                                refine g_aload_n (n := 224) hx 3 (dq tX7_pass 112 rfl) rfl rfl ?_
                                refine g_getI (n := 227) hx glX7_22 (sX7_3 (by decide)) (dq tX7_pass 113 rfl) rfl (fun h_978l h_978u => ?_)
                                refine g_iald (n := 228) (q := (M_967 7 3).toNat) hx (aX7_0 (b := 7) (by decide)) (dq tX7_pass 114 rfl) rfl (by omega) (by omega) (by omega) rfl (fun h_979l h_979u => ?_)
                                refine g_iload_n (n := 229) hx 1 (dq tX7_pass 115 rfl) rfl rfl ?_
                                refine g_icmp_lt (n := 232) (t := 258) hx (dq tX7_pass 116 rfl) (by decide) rfl (zrI h_979l h_979u (by decide) (by decide)) ⟨by decide, by decide⟩ (fun c_980 => ?_) (fun c_980 => ?_)
                                · exact g_vret hx hr (dq tX7_pass 131 rfl) (fun u_ v_ huv_ => (((((f_970 u_ v_ (by omega)).trans (m_907 u_ v_ (by omega))).trans (m_899 u_ v_ (by omega))).trans (f_7 u_ v_ (by omega))).trans (m_3 u_ v_ (by omega))))
                                · refine g_aload_n (n := 233) hx 3 (dq tX7_pass 117 rfl) rfl rfl ?_
                                  refine g_getR (n := 236) hx glX7_9 (sX7_0 (by decide)) (dq tX7_pass 118 rfl) rfl ?_
                                  refine g_aload_n (n := 237) hx 3 (dq tX7_pass 119 rfl) rfl rfl ?_
                                  refine g_getI (n := 240) hx glX7_22 (sX7_3 (by decide)) (dq tX7_pass 120 rfl) rfl (fun h_981l h_981u => ?_)
                                  refine g_iald (n := 241) (q := (M_967 7 3).toNat) hx (aX7_0 (b := 7) (by decide)) (dq tX7_pass 121 rfl) rfl (by omega) (by omega) (by omega) rfl (fun h_982l h_982u => ?_)
                                  refine g_iload_n (n := 242) hx 0 (dq tX7_pass 122 rfl) rfl rfl ?_
                                  refine g_icmp_gt (n := 245) (t := 258) hx (dq tX7_pass 123 rfl) (by decide) rfl (zrI h_982l h_982u (by decide) (by decide)) ⟨by decide, by decide⟩ (fun c_983 => ?_) (fun c_983 => ?_)
                                  · exact g_vret hx hr (dq tX7_pass 131 rfl) (fun u_ v_ huv_ => (((((f_970 u_ v_ (by omega)).trans (m_907 u_ v_ (by omega))).trans (m_899 u_ v_ (by omega))).trans (f_7 u_ v_ (by omega))).trans (m_3 u_ v_ (by omega))))
                                  · refine g_aload_n (n := 246) hx 3 (dq tX7_pass 124 rfl) rfl rfl ?_
                                    refine g_dup (n := 247) hx (dq tX7_pass 125 rfl) rfl rfl ?_
                                    refine g_getI (n := 250) hx glX7_22 (sX7_3 (by decide)) (dq tX7_pass 126 rfl) rfl (fun h_984l h_984u => ?_)
                                    refine g_iconst (n := 251) hx (dq tX7_pass 127 rfl) rfl ?_
                                    refine g_iadd (n := 252) hx (dq tX7_pass 128 rfl) rfl ?_
                                    refine g_putI (n := 255) hx plX7_22 (sX7_3 (by decide)) (dq tX7_pass 129 rfl) rfl (by omega) (by omega) (fun M_985 m_986e m_986 => ?_)
                                    refine g_goto (n := 200) hx (dq tX7_pass 130 rfl) (by decide) ?_
                                    exact ih_969 _ (by omega) M_985 (fun u_ v_ huv_ => ((m_986 u_ v_ (by omega)).trans (f_970 u_ v_ (by omega)))) rfl
                        exact L_968 _ M_906 (fun _ _ _ => rfl) rfl
                  · refine g_aload_n (n := 159) hx 3 (dq tX7_pass 80 rfl) rfl rfl ?_
                    refine g_getI (n := 162) hx glX7_31 (sX7_4 (by decide)) (dq tX7_pass 81 rfl) rfl (fun h_987l h_987u => ?_)
                    refine g_bipush (n := 164) hx (dq tX7_pass 82 rfl) rfl (by decide) ?_
                    refine g_icmp_gt (n := 167) (t := 176) hx (dq tX7_pass 83 rfl) (by decide) rfl (zrI h_987l h_987u (by decide) (by decide)) ⟨by decide, by decide⟩ (fun c_988 => ?_) (fun c_988 => ?_)
                    · refine g_aload_n (n := 177) hx 3 (dq tX7_pass 89 rfl) rfl rfl ?_
                      refine g_getI (n := 180) hx glX7_31 (sX7_4 (by decide)) (dq tX7_pass 90 rfl) rfl (fun h_989l h_989u => ?_)
                      refine g_bipush (n := 182) hx (dq tX7_pass 91 rfl) rfl (by decide) ?_
                      refine g_icmp_lt (n := 185) (t := 200) hx (dq tX7_pass 92 rfl) (by decide) rfl (zrI h_989l h_989u (by decide) (by decide)) ⟨by decide, by decide⟩ (fun c_990 => ?_) (fun c_990 => ?_)
                      · omega
                      · refine g_aload_n (n := 186) hx 3 (dq tX7_pass 93 rfl) rfl rfl ?_
                        refine g_getI (n := 189) hx glX7_31 (sX7_4 (by decide)) (dq tX7_pass 94 rfl) rfl (fun h_991l h_991u => ?_)
                        refine g_bipush (n := 191) hx (dq tX7_pass 95 rfl) rfl (by decide) ?_
                        refine g_icmp_gt (n := 194) (t := 200) hx (dq tX7_pass 96 rfl) (by decide) rfl (zrI h_991l h_991u (by decide) (by decide)) ⟨by decide, by decide⟩ (fun c_992 => ?_) (fun c_992 => ?_)
                        · have L_993 : ∀ (n_ : Nat), ((400 - M_906 7 3).toNat = n_) → G Γ x 4 (QV Γ x (qctX7_pass M)) M_906 200 [(3, vI (M_906 7 1)), (2, vI 256), (1, vI 256), (0, aR Γ 7)] [] := by
                            intro n_
                            induction n_ using Nat.strongRecOn with
                            | _ n_ ih_994 =>
                              intro hm_996
                              refine g_aload_n (n := 201) hx 3 (dq tX7_pass 101 rfl) rfl rfl ?_
                              refine g_getI (n := 204) hx glX7_22 (sX7_3 (by decide)) (dq tX7_pass 102 rfl) rfl (fun h_997l h_997u => ?_)
                              refine g_aload_n (n := 205) hx 3 (dq tX7_pass 103 rfl) rfl rfl ?_
                              refine g_getI (n := 208) hx glX7_15 (sX7_1 (by decide)) (dq tX7_pass 104 rfl) rfl (fun h_998l h_998u => ?_)
                              refine g_icmp_ge (n := 211) (t := 258) hx (dq tX7_pass 105 rfl) (by decide) rfl (zrI h_997l h_997u (by decide) (by decide)) (zrI h_998l h_998u (by decide) (by decide)) (fun c_999 => ?_) (fun c_999 => ?_)
                              · exact g_vret hx hr (dq tX7_pass 131 rfl) (fun u_ v_ huv_ => ((((m_907 u_ v_ (by omega)).trans (m_899 u_ v_ (by omega))).trans (f_7 u_ v_ (by omega))).trans (m_3 u_ v_ (by omega))))
                              · refine g_aload_n (n := 212) hx 3 (dq tX7_pass 106 rfl) rfl rfl ?_
                                refine g_getI (n := 215) hx glX7_22 (sX7_3 (by decide)) (dq tX7_pass 107 rfl) rfl (fun h_1000l h_1000u => ?_)
                                refine g_iload_n (n := 216) hx 0 (dq tX7_pass 108 rfl) rfl rfl ?_
                                refine g_icmp_ge (n := 219) (t := 258) hx (dq tX7_pass 109 rfl) (by decide) rfl (zrI h_1000l h_1000u (by decide) (by decide)) (zrI h_908l h_908u (by decide) (by decide)) (fun c_1001 => ?_) (fun c_1001 => ?_)
                                · exact g_vret hx hr (dq tX7_pass 131 rfl) (fun u_ v_ huv_ => ((((m_907 u_ v_ (by omega)).trans (m_899 u_ v_ (by omega))).trans (f_7 u_ v_ (by omega))).trans (m_3 u_ v_ (by omega))))
                                · refine g_aload_n (n := 220) hx 3 (dq tX7_pass 110 rfl) rfl rfl ?_
                                  refine g_getR (n := 223) hx glX7_9 (sX7_0 (by decide)) (dq tX7_pass 111 rfl) rfl ?_
                                  refine g_aload_n (n := 224) hx 3 (dq tX7_pass 112 rfl) rfl rfl ?_
                                  refine g_getI (n := 227) hx glX7_22 (sX7_3 (by decide)) (dq tX7_pass 113 rfl) rfl (fun h_1002l h_1002u => ?_)
                                  refine g_iald (n := 228) (q := (M_906 7 3).toNat) hx (aX7_0 (b := 7) (by decide)) (dq tX7_pass 114 rfl) rfl (by omega) (by omega) (by omega) rfl (fun h_1003l h_1003u => ?_)
                                  refine g_iload_n (n := 229) hx 2 (dq tX7_pass 115 rfl) rfl rfl ?_
                                  refine g_icmp_lt (n := 232) (t := 258) hx (dq tX7_pass 116 rfl) (by decide) rfl (zrI h_1003l h_1003u (by decide) (by decide)) ⟨by decide, by decide⟩ (fun c_1004 => ?_) (fun c_1004 => ?_)
                                  · exact g_vret hx hr (dq tX7_pass 131 rfl) (fun u_ v_ huv_ => ((((m_907 u_ v_ (by omega)).trans (m_899 u_ v_ (by omega))).trans (f_7 u_ v_ (by omega))).trans (m_3 u_ v_ (by omega))))
                                  · omega
                          exact L_993 _ rfl
                        · omega
                    · refine g_bipush (n := 169) hx (dq tX7_pass 84 rfl) rfl (by decide) ?_
                      refine g_istore_n (n := 170) (lv' := [(1, vI 97), (3, vI (M_906 7 1)), (2, vI 256), (0, aR Γ 7)]) hx (dq tX7_pass 85 rfl) (by decide) rfl rfl ?_
                      refine g_bipush (n := 172) hx (dq tX7_pass 86 rfl) rfl (by decide) ?_
                      refine g_istore_n (n := 173) (lv' := [(2, vI 122), (1, vI 97), (3, vI (M_906 7 1)), (0, aR Γ 7)]) hx (dq tX7_pass 87 rfl) (by decide) rfl rfl ?_
                      refine g_goto (n := 200) hx (dq tX7_pass 88 rfl) (by decide) ?_
                      have L_1006 : ∀ (n_ : Nat) (M_1005 : zM), (∀ u_ v_, (u_ ≠ 7 ∨ v_ ≠ 3) → M_1005 u_ v_ = M_906 u_ v_) → ((400 - M_1005 7 3).toNat = n_) → G Γ x 4 (QV Γ x (qctX7_pass M)) M_1005 200 [(2, vI 122), (1, vI 97), (3, vI (M_906 7 1)), (0, aR Γ 7)] [] := by
                        intro n_
                        induction n_ using Nat.strongRecOn with
                        | _ n_ ih_1007 =>
                          intro M_1005 f_1008 hm_1009
                          refine g_aload_n (n := 201) hx 3 (dq tX7_pass 101 rfl) rfl rfl ?_
                          refine g_getI (n := 204) hx glX7_22 (sX7_3 (by decide)) (dq tX7_pass 102 rfl) rfl (fun h_1010l h_1010u => ?_)
                          refine g_aload_n (n := 205) hx 3 (dq tX7_pass 103 rfl) rfl rfl ?_
                          refine g_getI (n := 208) hx glX7_15 (sX7_1 (by decide)) (dq tX7_pass 104 rfl) rfl (fun h_1011l h_1011u => ?_)
                          have e_1012 : M_1005 7 1 = M_906 7 1 := (f_1008 7 1 (by omega))
                          refine g_icmp_ge (n := 211) (t := 258) hx (dq tX7_pass 105 rfl) (by decide) rfl (zrI h_1010l h_1010u (by decide) (by decide)) (zrI h_1011l h_1011u (by decide) (by decide)) (fun c_1013 => ?_) (fun c_1013 => ?_)
                          · exact g_vret hx hr (dq tX7_pass 131 rfl) (fun u_ v_ huv_ => (((((f_1008 u_ v_ (by omega)).trans (m_907 u_ v_ (by omega))).trans (m_899 u_ v_ (by omega))).trans (f_7 u_ v_ (by omega))).trans (m_3 u_ v_ (by omega))))
                          · refine g_aload_n (n := 212) hx 3 (dq tX7_pass 106 rfl) rfl rfl ?_
                            refine g_getI (n := 215) hx glX7_22 (sX7_3 (by decide)) (dq tX7_pass 107 rfl) rfl (fun h_1014l h_1014u => ?_)
                            refine g_iload_n (n := 216) hx 2 (dq tX7_pass 108 rfl) rfl rfl ?_
                            refine g_icmp_ge (n := 219) (t := 258) hx (dq tX7_pass 109 rfl) (by decide) rfl (zrI h_1014l h_1014u (by decide) (by decide)) (zrI h_908l h_908u (by decide) (by decide)) (fun c_1015 => ?_) (fun c_1015 => ?_)
                            · exact g_vret hx hr (dq tX7_pass 131 rfl) (fun u_ v_ huv_ => (((((f_1008 u_ v_ (by omega)).trans (m_907 u_ v_ (by omega))).trans (m_899 u_ v_ (by omega))).trans (f_7 u_ v_ (by omega))).trans (m_3 u_ v_ (by omega))))
                            · refine g_aload_n (n := 220) hx 3 (dq tX7_pass 110 rfl) rfl rfl ?_
                              refine g_getR (n := 223) hx glX7_9 (sX7_0 (by decide)) (dq tX7_pass 111 rfl) rfl ?_
                              refine g_aload_n (n := 224) hx 3 (dq tX7_pass 112 rfl) rfl rfl ?_
                              refine g_getI (n := 227) hx glX7_22 (sX7_3 (by decide)) (dq tX7_pass 113 rfl) rfl (fun h_1016l h_1016u => ?_)
                              refine g_iald (n := 228) (q := (M_1005 7 3).toNat) hx (aX7_0 (b := 7) (by decide)) (dq tX7_pass 114 rfl) rfl (by omega) (by omega) (by omega) rfl (fun h_1017l h_1017u => ?_)
                              refine g_iload_n (n := 229) hx 1 (dq tX7_pass 115 rfl) rfl rfl ?_
                              refine g_icmp_lt (n := 232) (t := 258) hx (dq tX7_pass 116 rfl) (by decide) rfl (zrI h_1017l h_1017u (by decide) (by decide)) ⟨by decide, by decide⟩ (fun c_1018 => ?_) (fun c_1018 => ?_)
                              · exact g_vret hx hr (dq tX7_pass 131 rfl) (fun u_ v_ huv_ => (((((f_1008 u_ v_ (by omega)).trans (m_907 u_ v_ (by omega))).trans (m_899 u_ v_ (by omega))).trans (f_7 u_ v_ (by omega))).trans (m_3 u_ v_ (by omega))))
                              · refine g_aload_n (n := 233) hx 3 (dq tX7_pass 117 rfl) rfl rfl ?_
                                refine g_getR (n := 236) hx glX7_9 (sX7_0 (by decide)) (dq tX7_pass 118 rfl) rfl ?_
                                refine g_aload_n (n := 237) hx 3 (dq tX7_pass 119 rfl) rfl rfl ?_
                                refine g_getI (n := 240) hx glX7_22 (sX7_3 (by decide)) (dq tX7_pass 120 rfl) rfl (fun h_1019l h_1019u => ?_)
                                refine g_iald (n := 241) (q := (M_1005 7 3).toNat) hx (aX7_0 (b := 7) (by decide)) (dq tX7_pass 121 rfl) rfl (by omega) (by omega) (by omega) rfl (fun h_1020l h_1020u => ?_)
                                refine g_iload_n (n := 242) hx 0 (dq tX7_pass 122 rfl) rfl rfl ?_
                                refine g_icmp_gt (n := 245) (t := 258) hx (dq tX7_pass 123 rfl) (by decide) rfl (zrI h_1020l h_1020u (by decide) (by decide)) ⟨by decide, by decide⟩ (fun c_1021 => ?_) (fun c_1021 => ?_)
                                · exact g_vret hx hr (dq tX7_pass 131 rfl) (fun u_ v_ huv_ => (((((f_1008 u_ v_ (by omega)).trans (m_907 u_ v_ (by omega))).trans (m_899 u_ v_ (by omega))).trans (f_7 u_ v_ (by omega))).trans (m_3 u_ v_ (by omega))))
                                · refine g_aload_n (n := 246) hx 3 (dq tX7_pass 124 rfl) rfl rfl ?_
                                  refine g_dup (n := 247) hx (dq tX7_pass 125 rfl) rfl rfl ?_
                                  refine g_getI (n := 250) hx glX7_22 (sX7_3 (by decide)) (dq tX7_pass 126 rfl) rfl (fun h_1022l h_1022u => ?_)
                                  refine g_iconst (n := 251) hx (dq tX7_pass 127 rfl) rfl ?_
                                  refine g_iadd (n := 252) hx (dq tX7_pass 128 rfl) rfl ?_
                                  refine g_putI (n := 255) hx plX7_22 (sX7_3 (by decide)) (dq tX7_pass 129 rfl) rfl (by omega) (by omega) (fun M_1023 m_1024e m_1024 => ?_)
                                  refine g_goto (n := 200) hx (dq tX7_pass 130 rfl) (by decide) ?_
                                  exact ih_1007 _ (by omega) M_1023 (fun u_ v_ huv_ => ((m_1024 u_ v_ (by omega)).trans (f_1008 u_ v_ (by omega)))) rfl
                      exact L_1006 _ M_906 (fun _ _ _ => rfl) rfl
                · refine g_bipush (n := 135) hx (dq tX7_pass 66 rfl) rfl (by decide) ?_
                  refine g_istore_n (n := 136) (lv' := [(1, vI 61), (3, vI (M_906 7 1)), (2, vI 256), (0, aR Γ 7)]) hx (dq tX7_pass 67 rfl) (by decide) rfl rfl ?_
                  refine g_bipush (n := 138) hx (dq tX7_pass 68 rfl) rfl (by decide) ?_
                  refine g_istore_n (n := 139) (lv' := [(2, vI 61), (1, vI 61), (3, vI (M_906 7 1)), (0, aR Γ 7)]) hx (dq tX7_pass 69 rfl) (by decide) rfl rfl ?_
                  refine g_aload_n (n := 140) hx 3 (dq tX7_pass 70 rfl) rfl rfl ?_
                  refine g_getI (n := 143) hx glX7_28 (sX7_2 (by decide)) (dq tX7_pass 71 rfl) rfl (fun h_1025l h_1025u => ?_)
                  have e_1026 : M_906 7 2 = M_898 7 2 := (m_907 7 2 (by omega))
                  refine g_iconst (n := 144) hx (dq tX7_pass 72 rfl) rfl ?_
                  refine g_iadd (n := 145) hx (dq tX7_pass 73 rfl) rfl ?_
                  refine g_istore_n (n := 146) (lv' := [(3, vI ((M_906 7 2) + 2)), (2, vI 61), (1, vI 61), (0, aR Γ 7)]) hx (dq tX7_pass 74 rfl) (by decide) rfl rfl ?_
                  refine g_goto (n := 200) hx (dq tX7_pass 75 rfl) (by decide) ?_
                  have L_1028 : ∀ (n_ : Nat) (M_1027 : zM), (∀ u_ v_, (u_ ≠ 7 ∨ v_ ≠ 3) → M_1027 u_ v_ = M_906 u_ v_) → ((400 - M_1027 7 3).toNat = n_) → G Γ x 4 (QV Γ x (qctX7_pass M)) M_1027 200 [(3, vI ((M_906 7 2) + 2)), (2, vI 61), (1, vI 61), (0, aR Γ 7)] [] := by
                    intro n_
                    induction n_ using Nat.strongRecOn with
                    | _ n_ ih_1029 =>
                      intro M_1027 f_1030 hm_1031
                      refine g_aload_n (n := 201) hx 3 (dq tX7_pass 101 rfl) rfl rfl ?_
                      refine g_getI (n := 204) hx glX7_22 (sX7_3 (by decide)) (dq tX7_pass 102 rfl) rfl (fun h_1032l h_1032u => ?_)
                      refine g_aload_n (n := 205) hx 3 (dq tX7_pass 103 rfl) rfl rfl ?_
                      refine g_getI (n := 208) hx glX7_15 (sX7_1 (by decide)) (dq tX7_pass 104 rfl) rfl (fun h_1033l h_1033u => ?_)
                      have e_1034 : M_1027 7 1 = M_906 7 1 := (f_1030 7 1 (by omega))
                      refine g_icmp_ge (n := 211) (t := 258) hx (dq tX7_pass 105 rfl) (by decide) rfl (zrI h_1032l h_1032u (by decide) (by decide)) (zrI h_1033l h_1033u (by decide) (by decide)) (fun c_1035 => ?_) (fun c_1035 => ?_)
                      · exact g_vret hx hr (dq tX7_pass 131 rfl) (fun u_ v_ huv_ => (((((f_1030 u_ v_ (by omega)).trans (m_907 u_ v_ (by omega))).trans (m_899 u_ v_ (by omega))).trans (f_7 u_ v_ (by omega))).trans (m_3 u_ v_ (by omega))))
                      · refine g_aload_n (n := 212) hx 3 (dq tX7_pass 106 rfl) rfl rfl ?_
                        refine g_getI (n := 215) hx glX7_22 (sX7_3 (by decide)) (dq tX7_pass 107 rfl) rfl (fun h_1036l h_1036u => ?_)
                        refine g_iload_n (n := 216) hx 0 (dq tX7_pass 108 rfl) rfl rfl ?_
                        refine g_icmp_ge (n := 219) (t := 258) hx (dq tX7_pass 109 rfl) (by decide) rfl (zrI h_1036l h_1036u (by decide) (by decide)) ⟨by omega, by omega⟩ (fun c_1037 => ?_) (fun c_1037 => ?_)
                        · exact g_vret hx hr (dq tX7_pass 131 rfl) (fun u_ v_ huv_ => (((((f_1030 u_ v_ (by omega)).trans (m_907 u_ v_ (by omega))).trans (m_899 u_ v_ (by omega))).trans (f_7 u_ v_ (by omega))).trans (m_3 u_ v_ (by omega))))
                        · refine g_aload_n (n := 220) hx 3 (dq tX7_pass 110 rfl) rfl rfl ?_
                          refine g_getR (n := 223) hx glX7_9 (sX7_0 (by decide)) (dq tX7_pass 111 rfl) rfl ?_
                          refine g_aload_n (n := 224) hx 3 (dq tX7_pass 112 rfl) rfl rfl ?_
                          refine g_getI (n := 227) hx glX7_22 (sX7_3 (by decide)) (dq tX7_pass 113 rfl) rfl (fun h_1038l h_1038u => ?_)
                          refine g_iald (n := 228) (q := (M_1027 7 3).toNat) hx (aX7_0 (b := 7) (by decide)) (dq tX7_pass 114 rfl) rfl (by omega) (by omega) (by omega) rfl (fun h_1039l h_1039u => ?_)
                          refine g_iload_n (n := 229) hx 2 (dq tX7_pass 115 rfl) rfl rfl ?_
                          refine g_icmp_lt (n := 232) (t := 258) hx (dq tX7_pass 116 rfl) (by decide) rfl (zrI h_1039l h_1039u (by decide) (by decide)) ⟨by decide, by decide⟩ (fun c_1040 => ?_) (fun c_1040 => ?_)
                          · exact g_vret hx hr (dq tX7_pass 131 rfl) (fun u_ v_ huv_ => (((((f_1030 u_ v_ (by omega)).trans (m_907 u_ v_ (by omega))).trans (m_899 u_ v_ (by omega))).trans (f_7 u_ v_ (by omega))).trans (m_3 u_ v_ (by omega))))
                          · refine g_aload_n (n := 233) hx 3 (dq tX7_pass 117 rfl) rfl rfl ?_
                            refine g_getR (n := 236) hx glX7_9 (sX7_0 (by decide)) (dq tX7_pass 118 rfl) rfl ?_
                            refine g_aload_n (n := 237) hx 3 (dq tX7_pass 119 rfl) rfl rfl ?_
                            refine g_getI (n := 240) hx glX7_22 (sX7_3 (by decide)) (dq tX7_pass 120 rfl) rfl (fun h_1041l h_1041u => ?_)
                            refine g_iald (n := 241) (q := (M_1027 7 3).toNat) hx (aX7_0 (b := 7) (by decide)) (dq tX7_pass 121 rfl) rfl (by omega) (by omega) (by omega) rfl (fun h_1042l h_1042u => ?_)
                            refine g_iload_n (n := 242) hx 1 (dq tX7_pass 122 rfl) rfl rfl ?_
                            refine g_icmp_gt (n := 245) (t := 258) hx (dq tX7_pass 123 rfl) (by decide) rfl (zrI h_1042l h_1042u (by decide) (by decide)) ⟨by decide, by decide⟩ (fun c_1043 => ?_) (fun c_1043 => ?_)
                            · exact g_vret hx hr (dq tX7_pass 131 rfl) (fun u_ v_ huv_ => (((((f_1030 u_ v_ (by omega)).trans (m_907 u_ v_ (by omega))).trans (m_899 u_ v_ (by omega))).trans (f_7 u_ v_ (by omega))).trans (m_3 u_ v_ (by omega))))
                            · refine g_aload_n (n := 246) hx 3 (dq tX7_pass 124 rfl) rfl rfl ?_
                              refine g_dup (n := 247) hx (dq tX7_pass 125 rfl) rfl rfl ?_
                              refine g_getI (n := 250) hx glX7_22 (sX7_3 (by decide)) (dq tX7_pass 126 rfl) rfl (fun h_1044l h_1044u => ?_)
                              refine g_iconst (n := 251) hx (dq tX7_pass 127 rfl) rfl ?_
                              refine g_iadd (n := 252) hx (dq tX7_pass 128 rfl) rfl ?_
                              refine g_putI (n := 255) hx plX7_22 (sX7_3 (by decide)) (dq tX7_pass 129 rfl) rfl (by omega) (by omega) (fun M_1045 m_1046e m_1046 => ?_)
                              refine g_goto (n := 200) hx (dq tX7_pass 130 rfl) (by decide) ?_
                              exact ih_1029 _ (by omega) M_1045 (fun u_ v_ huv_ => ((m_1046 u_ v_ (by omega)).trans (f_1030 u_ v_ (by omega)))) rfl
                  exact L_1028 _ M_906 (fun _ _ _ => rfl) rfl
            · refine g_aload_n (n := 87) hx 0 (dq tX7_pass 43 rfl) rfl rfl ?_
              refine g_getI (n := 90) hx glX7_28 (sX7_2 (by decide)) (dq tX7_pass 44 rfl) rfl (fun h_1047l h_1047u => ?_)
              refine g_iconst (n := 91) hx (dq tX7_pass 45 rfl) rfl ?_
              refine g_iadd (n := 92) hx (dq tX7_pass 46 rfl) rfl ?_
              refine g_goto (n := 99) hx (dq tX7_pass 47 rfl) (by decide) ?_
              refine g_putI (n := 102) hx plX7_22 (sX7_3 (by decide)) (dq tX7_pass 50 rfl) rfl (by omega) (by omega) (fun M_1048 m_1049e m_1049 => ?_)
              refine g_sipush (n := 105) hx (dq tX7_pass 51 rfl) rfl (by decide) ?_
              refine g_istore_n (n := 106) (lv' := [(1, vI 256), (0, aR Γ 7)]) hx (dq tX7_pass 52 rfl) (by decide) rfl rfl ?_
              refine g_sipush (n := 109) hx (dq tX7_pass 53 rfl) rfl (by decide) ?_
              refine g_istore_n (n := 110) (lv' := [(2, vI 256), (1, vI 256), (0, aR Γ 7)]) hx (dq tX7_pass 54 rfl) (by decide) rfl rfl ?_
              refine g_aload_n (n := 111) hx 2 (dq tX7_pass 55 rfl) rfl rfl ?_
              refine g_getI (n := 114) hx glX7_15 (sX7_1 (by decide)) (dq tX7_pass 56 rfl) rfl (fun h_1050l h_1050u => ?_)
              have e_1051 : M_1048 7 1 = M_898 7 1 := (m_1049 7 1 (by omega))
              refine g_istore_n (n := 115) (lv' := [(3, vI (M_1048 7 1)), (2, vI 256), (1, vI 256), (0, aR Γ 7)]) hx (dq tX7_pass 57 rfl) (by decide) rfl rfl ?_
              refine g_aload_n (n := 116) hx 3 (dq tX7_pass 58 rfl) rfl rfl ?_
              refine g_getI (n := 119) hx glX7_31 (sX7_4 (by decide)) (dq tX7_pass 59 rfl) rfl (fun h_1052l h_1052u => ?_)
              have e_1053 : M_1048 7 4 = M_898 7 4 := (m_1049 7 4 (by omega))
              refine g_bipush (n := 121) hx (dq tX7_pass 60 rfl) rfl (by decide) ?_
              refine g_icmp_eq (n := 124) (t := 133) hx (dq tX7_pass 61 rfl) (by decide) rfl (zrI h_1052l h_1052u (by decide) (by decide)) ⟨by decide, by decide⟩ (fun c_1054 => ?_) (fun c_1054 => ?_)
              · refine g_bipush (n := 135) hx (dq tX7_pass 66 rfl) rfl (by decide) ?_
                refine g_istore_n (n := 136) (lv' := [(1, vI 61), (3, vI (M_1048 7 1)), (2, vI 256), (0, aR Γ 7)]) hx (dq tX7_pass 67 rfl) (by decide) rfl rfl ?_
                refine g_bipush (n := 138) hx (dq tX7_pass 68 rfl) rfl (by decide) ?_
                refine g_istore_n (n := 139) (lv' := [(2, vI 61), (1, vI 61), (3, vI (M_1048 7 1)), (0, aR Γ 7)]) hx (dq tX7_pass 69 rfl) (by decide) rfl rfl ?_
                refine g_aload_n (n := 140) hx 3 (dq tX7_pass 70 rfl) rfl rfl ?_
                refine g_getI (n := 143) hx glX7_28 (sX7_2 (by decide)) (dq tX7_pass 71 rfl) rfl (fun h_1055l h_1055u => ?_)
                have e_1056 : M_1048 7 2 = M_898 7 2 := (m_1049 7 2 (by omega))
                refine g_iconst (n := 144) hx (dq tX7_pass 72 rfl) rfl ?_
                refine g_iadd (n := 145) hx (dq tX7_pass 73 rfl) rfl ?_
                refine g_istore_n (n := 146) (lv' := [(3, vI ((M_1048 7 2) + 2)), (2, vI 61), (1, vI 61), (0, aR Γ 7)]) hx (dq tX7_pass 74 rfl) (by decide) rfl rfl ?_
                refine g_goto (n := 200) hx (dq tX7_pass 75 rfl) (by decide) ?_
                have L_1058 : ∀ (n_ : Nat) (M_1057 : zM), (∀ u_ v_, (u_ ≠ 7 ∨ v_ ≠ 3) → M_1057 u_ v_ = M_1048 u_ v_) → ((400 - M_1057 7 3).toNat = n_) → G Γ x 4 (QV Γ x (qctX7_pass M)) M_1057 200 [(3, vI ((M_1048 7 2) + 2)), (2, vI 61), (1, vI 61), (0, aR Γ 7)] [] := by
                  intro n_
                  induction n_ using Nat.strongRecOn with
                  | _ n_ ih_1059 =>
                    intro M_1057 f_1060 hm_1061
                    refine g_aload_n (n := 201) hx 3 (dq tX7_pass 101 rfl) rfl rfl ?_
                    refine g_getI (n := 204) hx glX7_22 (sX7_3 (by decide)) (dq tX7_pass 102 rfl) rfl (fun h_1062l h_1062u => ?_)
                    refine g_aload_n (n := 205) hx 3 (dq tX7_pass 103 rfl) rfl rfl ?_
                    refine g_getI (n := 208) hx glX7_15 (sX7_1 (by decide)) (dq tX7_pass 104 rfl) rfl (fun h_1063l h_1063u => ?_)
                    have e_1064 : M_1057 7 1 = M_1048 7 1 := (f_1060 7 1 (by omega))
                    refine g_icmp_ge (n := 211) (t := 258) hx (dq tX7_pass 105 rfl) (by decide) rfl (zrI h_1062l h_1062u (by decide) (by decide)) (zrI h_1063l h_1063u (by decide) (by decide)) (fun c_1065 => ?_) (fun c_1065 => ?_)
                    · exact g_vret hx hr (dq tX7_pass 131 rfl) (fun u_ v_ huv_ => (((((f_1060 u_ v_ (by omega)).trans (m_1049 u_ v_ (by omega))).trans (m_899 u_ v_ (by omega))).trans (f_7 u_ v_ (by omega))).trans (m_3 u_ v_ (by omega))))
                    · refine g_aload_n (n := 212) hx 3 (dq tX7_pass 106 rfl) rfl rfl ?_
                      refine g_getI (n := 215) hx glX7_22 (sX7_3 (by decide)) (dq tX7_pass 107 rfl) rfl (fun h_1066l h_1066u => ?_)
                      refine g_iload_n (n := 216) hx 0 (dq tX7_pass 108 rfl) rfl rfl ?_
                      refine g_icmp_ge (n := 219) (t := 258) hx (dq tX7_pass 109 rfl) (by decide) rfl (zrI h_1066l h_1066u (by decide) (by decide)) ⟨by omega, by omega⟩ (fun c_1067 => ?_) (fun c_1067 => ?_)
                      · exact g_vret hx hr (dq tX7_pass 131 rfl) (fun u_ v_ huv_ => (((((f_1060 u_ v_ (by omega)).trans (m_1049 u_ v_ (by omega))).trans (m_899 u_ v_ (by omega))).trans (f_7 u_ v_ (by omega))).trans (m_3 u_ v_ (by omega))))
                      · refine g_aload_n (n := 220) hx 3 (dq tX7_pass 110 rfl) rfl rfl ?_
                        refine g_getR (n := 223) hx glX7_9 (sX7_0 (by decide)) (dq tX7_pass 111 rfl) rfl ?_
                        refine g_aload_n (n := 224) hx 3 (dq tX7_pass 112 rfl) rfl rfl ?_
                        refine g_getI (n := 227) hx glX7_22 (sX7_3 (by decide)) (dq tX7_pass 113 rfl) rfl (fun h_1068l h_1068u => ?_)
                        refine g_iald (n := 228) (q := (M_1057 7 3).toNat) hx (aX7_0 (b := 7) (by decide)) (dq tX7_pass 114 rfl) rfl (by omega) (by omega) (by omega) rfl (fun h_1069l h_1069u => ?_)
                        refine g_iload_n (n := 229) hx 2 (dq tX7_pass 115 rfl) rfl rfl ?_
                        refine g_icmp_lt (n := 232) (t := 258) hx (dq tX7_pass 116 rfl) (by decide) rfl (zrI h_1069l h_1069u (by decide) (by decide)) ⟨by decide, by decide⟩ (fun c_1070 => ?_) (fun c_1070 => ?_)
                        · exact g_vret hx hr (dq tX7_pass 131 rfl) (fun u_ v_ huv_ => (((((f_1060 u_ v_ (by omega)).trans (m_1049 u_ v_ (by omega))).trans (m_899 u_ v_ (by omega))).trans (f_7 u_ v_ (by omega))).trans (m_3 u_ v_ (by omega))))
                        · refine g_aload_n (n := 233) hx 3 (dq tX7_pass 117 rfl) rfl rfl ?_
                          refine g_getR (n := 236) hx glX7_9 (sX7_0 (by decide)) (dq tX7_pass 118 rfl) rfl ?_
                          refine g_aload_n (n := 237) hx 3 (dq tX7_pass 119 rfl) rfl rfl ?_
                          refine g_getI (n := 240) hx glX7_22 (sX7_3 (by decide)) (dq tX7_pass 120 rfl) rfl (fun h_1071l h_1071u => ?_)
                          refine g_iald (n := 241) (q := (M_1057 7 3).toNat) hx (aX7_0 (b := 7) (by decide)) (dq tX7_pass 121 rfl) rfl (by omega) (by omega) (by omega) rfl (fun h_1072l h_1072u => ?_)
                          refine g_iload_n (n := 242) hx 1 (dq tX7_pass 122 rfl) rfl rfl ?_
                          refine g_icmp_gt (n := 245) (t := 258) hx (dq tX7_pass 123 rfl) (by decide) rfl (zrI h_1072l h_1072u (by decide) (by decide)) ⟨by decide, by decide⟩ (fun c_1073 => ?_) (fun c_1073 => ?_)
                          · exact g_vret hx hr (dq tX7_pass 131 rfl) (fun u_ v_ huv_ => (((((f_1060 u_ v_ (by omega)).trans (m_1049 u_ v_ (by omega))).trans (m_899 u_ v_ (by omega))).trans (f_7 u_ v_ (by omega))).trans (m_3 u_ v_ (by omega))))
                          · refine g_aload_n (n := 246) hx 3 (dq tX7_pass 124 rfl) rfl rfl ?_
                            refine g_dup (n := 247) hx (dq tX7_pass 125 rfl) rfl rfl ?_
                            refine g_getI (n := 250) hx glX7_22 (sX7_3 (by decide)) (dq tX7_pass 126 rfl) rfl (fun h_1074l h_1074u => ?_)
                            refine g_iconst (n := 251) hx (dq tX7_pass 127 rfl) rfl ?_
                            refine g_iadd (n := 252) hx (dq tX7_pass 128 rfl) rfl ?_
                            refine g_putI (n := 255) hx plX7_22 (sX7_3 (by decide)) (dq tX7_pass 129 rfl) rfl (by omega) (by omega) (fun M_1075 m_1076e m_1076 => ?_)
                            refine g_goto (n := 200) hx (dq tX7_pass 130 rfl) (by decide) ?_
                            exact ih_1059 _ (by omega) M_1075 (fun u_ v_ huv_ => ((m_1076 u_ v_ (by omega)).trans (f_1060 u_ v_ (by omega)))) rfl
                exact L_1058 _ M_1048 (fun _ _ _ => rfl) rfl
              · refine g_aload_n (n := 125) hx 3 (dq tX7_pass 62 rfl) rfl rfl ?_
                refine g_getI (n := 128) hx glX7_31 (sX7_4 (by decide)) (dq tX7_pass 63 rfl) rfl (fun h_1077l h_1077u => ?_)
                refine g_bipush (n := 130) hx (dq tX7_pass 64 rfl) rfl (by decide) ?_
                refine g_icmp_ne (n := 133) (t := 149) hx (dq tX7_pass 65 rfl) (by decide) rfl (zrI h_1077l h_1077u (by decide) (by decide)) ⟨by decide, by decide⟩ (fun c_1078 => ?_) (fun c_1078 => ?_)
                · refine g_aload_n (n := 150) hx 3 (dq tX7_pass 76 rfl) rfl rfl ?_
                  refine g_getI (n := 153) hx glX7_31 (sX7_4 (by decide)) (dq tX7_pass 77 rfl) rfl (fun h_1079l h_1079u => ?_)
                  refine g_bipush (n := 155) hx (dq tX7_pass 78 rfl) rfl (by decide) ?_
                  refine g_icmp_lt (n := 158) (t := 176) hx (dq tX7_pass 79 rfl) (by decide) rfl (zrI h_1079l h_1079u (by decide) (by decide)) ⟨by decide, by decide⟩ (fun c_1080 => ?_) (fun c_1080 => ?_)
                  · refine g_aload_n (n := 177) hx 3 (dq tX7_pass 89 rfl) rfl rfl ?_
                    refine g_getI (n := 180) hx glX7_31 (sX7_4 (by decide)) (dq tX7_pass 90 rfl) rfl (fun h_1081l h_1081u => ?_)
                    refine g_bipush (n := 182) hx (dq tX7_pass 91 rfl) rfl (by decide) ?_
                    refine g_icmp_lt (n := 185) (t := 200) hx (dq tX7_pass 92 rfl) (by decide) rfl (zrI h_1081l h_1081u (by decide) (by decide)) ⟨by decide, by decide⟩ (fun c_1082 => ?_) (fun c_1082 => ?_)
                    · have L_1083 : ∀ (n_ : Nat), ((400 - M_1048 7 3).toNat = n_) → G Γ x 4 (QV Γ x (qctX7_pass M)) M_1048 200 [(3, vI (M_1048 7 1)), (2, vI 256), (1, vI 256), (0, aR Γ 7)] [] := by
                        intro n_
                        induction n_ using Nat.strongRecOn with
                        | _ n_ ih_1084 =>
                          intro hm_1086
                          refine g_aload_n (n := 201) hx 3 (dq tX7_pass 101 rfl) rfl rfl ?_
                          refine g_getI (n := 204) hx glX7_22 (sX7_3 (by decide)) (dq tX7_pass 102 rfl) rfl (fun h_1087l h_1087u => ?_)
                          refine g_aload_n (n := 205) hx 3 (dq tX7_pass 103 rfl) rfl rfl ?_
                          refine g_getI (n := 208) hx glX7_15 (sX7_1 (by decide)) (dq tX7_pass 104 rfl) rfl (fun h_1088l h_1088u => ?_)
                          refine g_icmp_ge (n := 211) (t := 258) hx (dq tX7_pass 105 rfl) (by decide) rfl (zrI h_1087l h_1087u (by decide) (by decide)) (zrI h_1088l h_1088u (by decide) (by decide)) (fun c_1089 => ?_) (fun c_1089 => ?_)
                          · exact g_vret hx hr (dq tX7_pass 131 rfl) (fun u_ v_ huv_ => ((((m_1049 u_ v_ (by omega)).trans (m_899 u_ v_ (by omega))).trans (f_7 u_ v_ (by omega))).trans (m_3 u_ v_ (by omega))))
                          · refine g_aload_n (n := 212) hx 3 (dq tX7_pass 106 rfl) rfl rfl ?_
                            refine g_getI (n := 215) hx glX7_22 (sX7_3 (by decide)) (dq tX7_pass 107 rfl) rfl (fun h_1090l h_1090u => ?_)
                            refine g_iload_n (n := 216) hx 0 (dq tX7_pass 108 rfl) rfl rfl ?_
                            refine g_icmp_ge (n := 219) (t := 258) hx (dq tX7_pass 109 rfl) (by decide) rfl (zrI h_1090l h_1090u (by decide) (by decide)) (zrI h_1050l h_1050u (by decide) (by decide)) (fun c_1091 => ?_) (fun c_1091 => ?_)
                            · exact g_vret hx hr (dq tX7_pass 131 rfl) (fun u_ v_ huv_ => ((((m_1049 u_ v_ (by omega)).trans (m_899 u_ v_ (by omega))).trans (f_7 u_ v_ (by omega))).trans (m_3 u_ v_ (by omega))))
                            · refine g_aload_n (n := 220) hx 3 (dq tX7_pass 110 rfl) rfl rfl ?_
                              refine g_getR (n := 223) hx glX7_9 (sX7_0 (by decide)) (dq tX7_pass 111 rfl) rfl ?_
                              refine g_aload_n (n := 224) hx 3 (dq tX7_pass 112 rfl) rfl rfl ?_
                              refine g_getI (n := 227) hx glX7_22 (sX7_3 (by decide)) (dq tX7_pass 113 rfl) rfl (fun h_1092l h_1092u => ?_)
                              refine g_iald (n := 228) (q := (M_1048 7 3).toNat) hx (aX7_0 (b := 7) (by decide)) (dq tX7_pass 114 rfl) rfl (by omega) (by omega) (by omega) rfl (fun h_1093l h_1093u => ?_)
                              refine g_iload_n (n := 229) hx 2 (dq tX7_pass 115 rfl) rfl rfl ?_
                              refine g_icmp_lt (n := 232) (t := 258) hx (dq tX7_pass 116 rfl) (by decide) rfl (zrI h_1093l h_1093u (by decide) (by decide)) ⟨by decide, by decide⟩ (fun c_1094 => ?_) (fun c_1094 => ?_)
                              · exact g_vret hx hr (dq tX7_pass 131 rfl) (fun u_ v_ huv_ => ((((m_1049 u_ v_ (by omega)).trans (m_899 u_ v_ (by omega))).trans (f_7 u_ v_ (by omega))).trans (m_3 u_ v_ (by omega))))
                              · omega
                      exact L_1083 _ rfl
                    · refine g_aload_n (n := 186) hx 3 (dq tX7_pass 93 rfl) rfl rfl ?_
                      refine g_getI (n := 189) hx glX7_31 (sX7_4 (by decide)) (dq tX7_pass 94 rfl) rfl (fun h_1095l h_1095u => ?_)
                      refine g_bipush (n := 191) hx (dq tX7_pass 95 rfl) rfl (by decide) ?_
                      refine g_icmp_gt (n := 194) (t := 200) hx (dq tX7_pass 96 rfl) (by decide) rfl (zrI h_1095l h_1095u (by decide) (by decide)) ⟨by decide, by decide⟩ (fun c_1096 => ?_) (fun c_1096 => ?_)
                      · have L_1097 : ∀ (n_ : Nat), ((400 - M_1048 7 3).toNat = n_) → G Γ x 4 (QV Γ x (qctX7_pass M)) M_1048 200 [(3, vI (M_1048 7 1)), (2, vI 256), (1, vI 256), (0, aR Γ 7)] [] := by
                          intro n_
                          induction n_ using Nat.strongRecOn with
                          | _ n_ ih_1098 =>
                            intro hm_1100
                            refine g_aload_n (n := 201) hx 3 (dq tX7_pass 101 rfl) rfl rfl ?_
                            refine g_getI (n := 204) hx glX7_22 (sX7_3 (by decide)) (dq tX7_pass 102 rfl) rfl (fun h_1101l h_1101u => ?_)
                            refine g_aload_n (n := 205) hx 3 (dq tX7_pass 103 rfl) rfl rfl ?_
                            refine g_getI (n := 208) hx glX7_15 (sX7_1 (by decide)) (dq tX7_pass 104 rfl) rfl (fun h_1102l h_1102u => ?_)
                            refine g_icmp_ge (n := 211) (t := 258) hx (dq tX7_pass 105 rfl) (by decide) rfl (zrI h_1101l h_1101u (by decide) (by decide)) (zrI h_1102l h_1102u (by decide) (by decide)) (fun c_1103 => ?_) (fun c_1103 => ?_)
                            · exact g_vret hx hr (dq tX7_pass 131 rfl) (fun u_ v_ huv_ => ((((m_1049 u_ v_ (by omega)).trans (m_899 u_ v_ (by omega))).trans (f_7 u_ v_ (by omega))).trans (m_3 u_ v_ (by omega))))
                            · refine g_aload_n (n := 212) hx 3 (dq tX7_pass 106 rfl) rfl rfl ?_
                              refine g_getI (n := 215) hx glX7_22 (sX7_3 (by decide)) (dq tX7_pass 107 rfl) rfl (fun h_1104l h_1104u => ?_)
                              refine g_iload_n (n := 216) hx 0 (dq tX7_pass 108 rfl) rfl rfl ?_
                              refine g_icmp_ge (n := 219) (t := 258) hx (dq tX7_pass 109 rfl) (by decide) rfl (zrI h_1104l h_1104u (by decide) (by decide)) (zrI h_1050l h_1050u (by decide) (by decide)) (fun c_1105 => ?_) (fun c_1105 => ?_)
                              · exact g_vret hx hr (dq tX7_pass 131 rfl) (fun u_ v_ huv_ => ((((m_1049 u_ v_ (by omega)).trans (m_899 u_ v_ (by omega))).trans (f_7 u_ v_ (by omega))).trans (m_3 u_ v_ (by omega))))
                              · refine g_aload_n (n := 220) hx 3 (dq tX7_pass 110 rfl) rfl rfl ?_
                                refine g_getR (n := 223) hx glX7_9 (sX7_0 (by decide)) (dq tX7_pass 111 rfl) rfl ?_
                                refine g_aload_n (n := 224) hx 3 (dq tX7_pass 112 rfl) rfl rfl ?_
                                refine g_getI (n := 227) hx glX7_22 (sX7_3 (by decide)) (dq tX7_pass 113 rfl) rfl (fun h_1106l h_1106u => ?_)
                                refine g_iald (n := 228) (q := (M_1048 7 3).toNat) hx (aX7_0 (b := 7) (by decide)) (dq tX7_pass 114 rfl) rfl (by omega) (by omega) (by omega) rfl (fun h_1107l h_1107u => ?_)
                                refine g_iload_n (n := 229) hx 2 (dq tX7_pass 115 rfl) rfl rfl ?_
                                refine g_icmp_lt (n := 232) (t := 258) hx (dq tX7_pass 116 rfl) (by decide) rfl (zrI h_1107l h_1107u (by decide) (by decide)) ⟨by decide, by decide⟩ (fun c_1108 => ?_) (fun c_1108 => ?_)
                                · exact g_vret hx hr (dq tX7_pass 131 rfl) (fun u_ v_ huv_ => ((((m_1049 u_ v_ (by omega)).trans (m_899 u_ v_ (by omega))).trans (f_7 u_ v_ (by omega))).trans (m_3 u_ v_ (by omega))))
                                · omega
                        exact L_1097 _ rfl
                      · refine g_bipush (n := 196) hx (dq tX7_pass 97 rfl) rfl (by decide) ?_
                        refine g_istore_n (n := 197) (lv' := [(1, vI 48), (3, vI (M_1048 7 1)), (2, vI 256), (0, aR Γ 7)]) hx (dq tX7_pass 98 rfl) (by decide) rfl rfl ?_
                        refine g_bipush (n := 199) hx (dq tX7_pass 99 rfl) rfl (by decide) ?_
                        refine g_istore_n (n := 200) (lv' := [(2, vI 57), (1, vI 48), (3, vI (M_1048 7 1)), (0, aR Γ 7)]) hx (dq tX7_pass 100 rfl) (by decide) rfl rfl ?_
                        have L_1110 : ∀ (n_ : Nat) (M_1109 : zM), (∀ u_ v_, (u_ ≠ 7 ∨ v_ ≠ 3) → M_1109 u_ v_ = M_1048 u_ v_) → ((400 - M_1109 7 3).toNat = n_) → G Γ x 4 (QV Γ x (qctX7_pass M)) M_1109 200 [(2, vI 57), (1, vI 48), (3, vI (M_1048 7 1)), (0, aR Γ 7)] [] := by
                          intro n_
                          induction n_ using Nat.strongRecOn with
                          | _ n_ ih_1111 =>
                            intro M_1109 f_1112 hm_1113
                            refine g_aload_n (n := 201) hx 3 (dq tX7_pass 101 rfl) rfl rfl ?_
                            refine g_getI (n := 204) hx glX7_22 (sX7_3 (by decide)) (dq tX7_pass 102 rfl) rfl (fun h_1114l h_1114u => ?_)
                            refine g_aload_n (n := 205) hx 3 (dq tX7_pass 103 rfl) rfl rfl ?_
                            refine g_getI (n := 208) hx glX7_15 (sX7_1 (by decide)) (dq tX7_pass 104 rfl) rfl (fun h_1115l h_1115u => ?_)
                            have e_1116 : M_1109 7 1 = M_1048 7 1 := (f_1112 7 1 (by omega))
                            refine g_icmp_ge (n := 211) (t := 258) hx (dq tX7_pass 105 rfl) (by decide) rfl (zrI h_1114l h_1114u (by decide) (by decide)) (zrI h_1115l h_1115u (by decide) (by decide)) (fun c_1117 => ?_) (fun c_1117 => ?_)
                            · exact g_vret hx hr (dq tX7_pass 131 rfl) (fun u_ v_ huv_ => (((((f_1112 u_ v_ (by omega)).trans (m_1049 u_ v_ (by omega))).trans (m_899 u_ v_ (by omega))).trans (f_7 u_ v_ (by omega))).trans (m_3 u_ v_ (by omega))))
                            · refine g_aload_n (n := 212) hx 3 (dq tX7_pass 106 rfl) rfl rfl ?_
                              refine g_getI (n := 215) hx glX7_22 (sX7_3 (by decide)) (dq tX7_pass 107 rfl) rfl (fun h_1118l h_1118u => ?_)
                              refine g_iload_n (n := 216) hx 2 (dq tX7_pass 108 rfl) rfl rfl ?_
                              refine g_icmp_ge (n := 219) (t := 258) hx (dq tX7_pass 109 rfl) (by decide) rfl (zrI h_1118l h_1118u (by decide) (by decide)) (zrI h_1050l h_1050u (by decide) (by decide)) (fun c_1119 => ?_) (fun c_1119 => ?_)
                              · exact g_vret hx hr (dq tX7_pass 131 rfl) (fun u_ v_ huv_ => (((((f_1112 u_ v_ (by omega)).trans (m_1049 u_ v_ (by omega))).trans (m_899 u_ v_ (by omega))).trans (f_7 u_ v_ (by omega))).trans (m_3 u_ v_ (by omega))))
                              · refine g_aload_n (n := 220) hx 3 (dq tX7_pass 110 rfl) rfl rfl ?_
                                refine g_getR (n := 223) hx glX7_9 (sX7_0 (by decide)) (dq tX7_pass 111 rfl) rfl ?_
                                refine g_aload_n (n := 224) hx 3 (dq tX7_pass 112 rfl) rfl rfl ?_
                                refine g_getI (n := 227) hx glX7_22 (sX7_3 (by decide)) (dq tX7_pass 113 rfl) rfl (fun h_1120l h_1120u => ?_)
                                refine g_iald (n := 228) (q := (M_1109 7 3).toNat) hx (aX7_0 (b := 7) (by decide)) (dq tX7_pass 114 rfl) rfl (by omega) (by omega) (by omega) rfl (fun h_1121l h_1121u => ?_)
                                refine g_iload_n (n := 229) hx 1 (dq tX7_pass 115 rfl) rfl rfl ?_
                                refine g_icmp_lt (n := 232) (t := 258) hx (dq tX7_pass 116 rfl) (by decide) rfl (zrI h_1121l h_1121u (by decide) (by decide)) ⟨by decide, by decide⟩ (fun c_1122 => ?_) (fun c_1122 => ?_)
                                · exact g_vret hx hr (dq tX7_pass 131 rfl) (fun u_ v_ huv_ => (((((f_1112 u_ v_ (by omega)).trans (m_1049 u_ v_ (by omega))).trans (m_899 u_ v_ (by omega))).trans (f_7 u_ v_ (by omega))).trans (m_3 u_ v_ (by omega))))
                                · refine g_aload_n (n := 233) hx 3 (dq tX7_pass 117 rfl) rfl rfl ?_
                                  refine g_getR (n := 236) hx glX7_9 (sX7_0 (by decide)) (dq tX7_pass 118 rfl) rfl ?_
                                  refine g_aload_n (n := 237) hx 3 (dq tX7_pass 119 rfl) rfl rfl ?_
                                  refine g_getI (n := 240) hx glX7_22 (sX7_3 (by decide)) (dq tX7_pass 120 rfl) rfl (fun h_1123l h_1123u => ?_)
                                  refine g_iald (n := 241) (q := (M_1109 7 3).toNat) hx (aX7_0 (b := 7) (by decide)) (dq tX7_pass 121 rfl) rfl (by omega) (by omega) (by omega) rfl (fun h_1124l h_1124u => ?_)
                                  refine g_iload_n (n := 242) hx 0 (dq tX7_pass 122 rfl) rfl rfl ?_
                                  refine g_icmp_gt (n := 245) (t := 258) hx (dq tX7_pass 123 rfl) (by decide) rfl (zrI h_1124l h_1124u (by decide) (by decide)) ⟨by decide, by decide⟩ (fun c_1125 => ?_) (fun c_1125 => ?_)
                                  · exact g_vret hx hr (dq tX7_pass 131 rfl) (fun u_ v_ huv_ => (((((f_1112 u_ v_ (by omega)).trans (m_1049 u_ v_ (by omega))).trans (m_899 u_ v_ (by omega))).trans (f_7 u_ v_ (by omega))).trans (m_3 u_ v_ (by omega))))
                                  · refine g_aload_n (n := 246) hx 3 (dq tX7_pass 124 rfl) rfl rfl ?_
                                    refine g_dup (n := 247) hx (dq tX7_pass 125 rfl) rfl rfl ?_
                                    refine g_getI (n := 250) hx glX7_22 (sX7_3 (by decide)) (dq tX7_pass 126 rfl) rfl (fun h_1126l h_1126u => ?_)
                                    refine g_iconst (n := 251) hx (dq tX7_pass 127 rfl) rfl ?_
                                    refine g_iadd (n := 252) hx (dq tX7_pass 128 rfl) rfl ?_
                                    refine g_putI (n := 255) hx plX7_22 (sX7_3 (by decide)) (dq tX7_pass 129 rfl) rfl (by omega) (by omega) (fun M_1127 m_1128e m_1128 => ?_)
                                    refine g_goto (n := 200) hx (dq tX7_pass 130 rfl) (by decide) ?_
                                    exact ih_1111 _ (by omega) M_1127 (fun u_ v_ huv_ => ((m_1128 u_ v_ (by omega)).trans (f_1112 u_ v_ (by omega)))) rfl
                        exact L_1110 _ M_1048 (fun _ _ _ => rfl) rfl
                  · refine g_aload_n (n := 159) hx 3 (dq tX7_pass 80 rfl) rfl rfl ?_
                    refine g_getI (n := 162) hx glX7_31 (sX7_4 (by decide)) (dq tX7_pass 81 rfl) rfl (fun h_1129l h_1129u => ?_)
                    refine g_bipush (n := 164) hx (dq tX7_pass 82 rfl) rfl (by decide) ?_
                    refine g_icmp_gt (n := 167) (t := 176) hx (dq tX7_pass 83 rfl) (by decide) rfl (zrI h_1129l h_1129u (by decide) (by decide)) ⟨by decide, by decide⟩ (fun c_1130 => ?_) (fun c_1130 => ?_)
                    · refine g_aload_n (n := 177) hx 3 (dq tX7_pass 89 rfl) rfl rfl ?_
                      refine g_getI (n := 180) hx glX7_31 (sX7_4 (by decide)) (dq tX7_pass 90 rfl) rfl (fun h_1131l h_1131u => ?_)
                      refine g_bipush (n := 182) hx (dq tX7_pass 91 rfl) rfl (by decide) ?_
                      refine g_icmp_lt (n := 185) (t := 200) hx (dq tX7_pass 92 rfl) (by decide) rfl (zrI h_1131l h_1131u (by decide) (by decide)) ⟨by decide, by decide⟩ (fun c_1132 => ?_) (fun c_1132 => ?_)
                      · omega
                      · refine g_aload_n (n := 186) hx 3 (dq tX7_pass 93 rfl) rfl rfl ?_
                        refine g_getI (n := 189) hx glX7_31 (sX7_4 (by decide)) (dq tX7_pass 94 rfl) rfl (fun h_1133l h_1133u => ?_)
                        refine g_bipush (n := 191) hx (dq tX7_pass 95 rfl) rfl (by decide) ?_
                        refine g_icmp_gt (n := 194) (t := 200) hx (dq tX7_pass 96 rfl) (by decide) rfl (zrI h_1133l h_1133u (by decide) (by decide)) ⟨by decide, by decide⟩ (fun c_1134 => ?_) (fun c_1134 => ?_)
                        · have L_1135 : ∀ (n_ : Nat), ((400 - M_1048 7 3).toNat = n_) → G Γ x 4 (QV Γ x (qctX7_pass M)) M_1048 200 [(3, vI (M_1048 7 1)), (2, vI 256), (1, vI 256), (0, aR Γ 7)] [] := by
                            intro n_
                            induction n_ using Nat.strongRecOn with
                            | _ n_ ih_1136 =>
                              intro hm_1138
                              refine g_aload_n (n := 201) hx 3 (dq tX7_pass 101 rfl) rfl rfl ?_
                              refine g_getI (n := 204) hx glX7_22 (sX7_3 (by decide)) (dq tX7_pass 102 rfl) rfl (fun h_1139l h_1139u => ?_)
                              refine g_aload_n (n := 205) hx 3 (dq tX7_pass 103 rfl) rfl rfl ?_
                              refine g_getI (n := 208) hx glX7_15 (sX7_1 (by decide)) (dq tX7_pass 104 rfl) rfl (fun h_1140l h_1140u => ?_)
                              refine g_icmp_ge (n := 211) (t := 258) hx (dq tX7_pass 105 rfl) (by decide) rfl (zrI h_1139l h_1139u (by decide) (by decide)) (zrI h_1140l h_1140u (by decide) (by decide)) (fun c_1141 => ?_) (fun c_1141 => ?_)
                              · exact g_vret hx hr (dq tX7_pass 131 rfl) (fun u_ v_ huv_ => ((((m_1049 u_ v_ (by omega)).trans (m_899 u_ v_ (by omega))).trans (f_7 u_ v_ (by omega))).trans (m_3 u_ v_ (by omega))))
                              · refine g_aload_n (n := 212) hx 3 (dq tX7_pass 106 rfl) rfl rfl ?_
                                refine g_getI (n := 215) hx glX7_22 (sX7_3 (by decide)) (dq tX7_pass 107 rfl) rfl (fun h_1142l h_1142u => ?_)
                                refine g_iload_n (n := 216) hx 0 (dq tX7_pass 108 rfl) rfl rfl ?_
                                refine g_icmp_ge (n := 219) (t := 258) hx (dq tX7_pass 109 rfl) (by decide) rfl (zrI h_1142l h_1142u (by decide) (by decide)) (zrI h_1050l h_1050u (by decide) (by decide)) (fun c_1143 => ?_) (fun c_1143 => ?_)
                                · exact g_vret hx hr (dq tX7_pass 131 rfl) (fun u_ v_ huv_ => ((((m_1049 u_ v_ (by omega)).trans (m_899 u_ v_ (by omega))).trans (f_7 u_ v_ (by omega))).trans (m_3 u_ v_ (by omega))))
                                · refine g_aload_n (n := 220) hx 3 (dq tX7_pass 110 rfl) rfl rfl ?_
                                  refine g_getR (n := 223) hx glX7_9 (sX7_0 (by decide)) (dq tX7_pass 111 rfl) rfl ?_
                                  refine g_aload_n (n := 224) hx 3 (dq tX7_pass 112 rfl) rfl rfl ?_
                                  refine g_getI (n := 227) hx glX7_22 (sX7_3 (by decide)) (dq tX7_pass 113 rfl) rfl (fun h_1144l h_1144u => ?_)
                                  refine g_iald (n := 228) (q := (M_1048 7 3).toNat) hx (aX7_0 (b := 7) (by decide)) (dq tX7_pass 114 rfl) rfl (by omega) (by omega) (by omega) rfl (fun h_1145l h_1145u => ?_)
                                  refine g_iload_n (n := 229) hx 2 (dq tX7_pass 115 rfl) rfl rfl ?_
                                  refine g_icmp_lt (n := 232) (t := 258) hx (dq tX7_pass 116 rfl) (by decide) rfl (zrI h_1145l h_1145u (by decide) (by decide)) ⟨by decide, by decide⟩ (fun c_1146 => ?_) (fun c_1146 => ?_)
                                  · exact g_vret hx hr (dq tX7_pass 131 rfl) (fun u_ v_ huv_ => ((((m_1049 u_ v_ (by omega)).trans (m_899 u_ v_ (by omega))).trans (f_7 u_ v_ (by omega))).trans (m_3 u_ v_ (by omega))))
                                  · omega
                          exact L_1135 _ rfl
                        · omega
                    · refine g_bipush (n := 169) hx (dq tX7_pass 84 rfl) rfl (by decide) ?_
                      refine g_istore_n (n := 170) (lv' := [(1, vI 97), (3, vI (M_1048 7 1)), (2, vI 256), (0, aR Γ 7)]) hx (dq tX7_pass 85 rfl) (by decide) rfl rfl ?_
                      refine g_bipush (n := 172) hx (dq tX7_pass 86 rfl) rfl (by decide) ?_
                      refine g_istore_n (n := 173) (lv' := [(2, vI 122), (1, vI 97), (3, vI (M_1048 7 1)), (0, aR Γ 7)]) hx (dq tX7_pass 87 rfl) (by decide) rfl rfl ?_
                      refine g_goto (n := 200) hx (dq tX7_pass 88 rfl) (by decide) ?_
                      have L_1148 : ∀ (n_ : Nat) (M_1147 : zM), (∀ u_ v_, (u_ ≠ 7 ∨ v_ ≠ 3) → M_1147 u_ v_ = M_1048 u_ v_) → ((400 - M_1147 7 3).toNat = n_) → G Γ x 4 (QV Γ x (qctX7_pass M)) M_1147 200 [(2, vI 122), (1, vI 97), (3, vI (M_1048 7 1)), (0, aR Γ 7)] [] := by
                        intro n_
                        induction n_ using Nat.strongRecOn with
                        | _ n_ ih_1149 =>
                          intro M_1147 f_1150 hm_1151
                          refine g_aload_n (n := 201) hx 3 (dq tX7_pass 101 rfl) rfl rfl ?_
                          refine g_getI (n := 204) hx glX7_22 (sX7_3 (by decide)) (dq tX7_pass 102 rfl) rfl (fun h_1152l h_1152u => ?_)
                          refine g_aload_n (n := 205) hx 3 (dq tX7_pass 103 rfl) rfl rfl ?_
                          refine g_getI (n := 208) hx glX7_15 (sX7_1 (by decide)) (dq tX7_pass 104 rfl) rfl (fun h_1153l h_1153u => ?_)
                          have e_1154 : M_1147 7 1 = M_1048 7 1 := (f_1150 7 1 (by omega))
                          refine g_icmp_ge (n := 211) (t := 258) hx (dq tX7_pass 105 rfl) (by decide) rfl (zrI h_1152l h_1152u (by decide) (by decide)) (zrI h_1153l h_1153u (by decide) (by decide)) (fun c_1155 => ?_) (fun c_1155 => ?_)
                          · exact g_vret hx hr (dq tX7_pass 131 rfl) (fun u_ v_ huv_ => (((((f_1150 u_ v_ (by omega)).trans (m_1049 u_ v_ (by omega))).trans (m_899 u_ v_ (by omega))).trans (f_7 u_ v_ (by omega))).trans (m_3 u_ v_ (by omega))))
                          · refine g_aload_n (n := 212) hx 3 (dq tX7_pass 106 rfl) rfl rfl ?_
                            refine g_getI (n := 215) hx glX7_22 (sX7_3 (by decide)) (dq tX7_pass 107 rfl) rfl (fun h_1156l h_1156u => ?_)
                            refine g_iload_n (n := 216) hx 2 (dq tX7_pass 108 rfl) rfl rfl ?_
                            refine g_icmp_ge (n := 219) (t := 258) hx (dq tX7_pass 109 rfl) (by decide) rfl (zrI h_1156l h_1156u (by decide) (by decide)) (zrI h_1050l h_1050u (by decide) (by decide)) (fun c_1157 => ?_) (fun c_1157 => ?_)
                            · exact g_vret hx hr (dq tX7_pass 131 rfl) (fun u_ v_ huv_ => (((((f_1150 u_ v_ (by omega)).trans (m_1049 u_ v_ (by omega))).trans (m_899 u_ v_ (by omega))).trans (f_7 u_ v_ (by omega))).trans (m_3 u_ v_ (by omega))))
                            · refine g_aload_n (n := 220) hx 3 (dq tX7_pass 110 rfl) rfl rfl ?_
                              refine g_getR (n := 223) hx glX7_9 (sX7_0 (by decide)) (dq tX7_pass 111 rfl) rfl ?_
                              refine g_aload_n (n := 224) hx 3 (dq tX7_pass 112 rfl) rfl rfl ?_
                              refine g_getI (n := 227) hx glX7_22 (sX7_3 (by decide)) (dq tX7_pass 113 rfl) rfl (fun h_1158l h_1158u => ?_)
                              refine g_iald (n := 228) (q := (M_1147 7 3).toNat) hx (aX7_0 (b := 7) (by decide)) (dq tX7_pass 114 rfl) rfl (by omega) (by omega) (by omega) rfl (fun h_1159l h_1159u => ?_)
                              refine g_iload_n (n := 229) hx 1 (dq tX7_pass 115 rfl) rfl rfl ?_
                              refine g_icmp_lt (n := 232) (t := 258) hx (dq tX7_pass 116 rfl) (by decide) rfl (zrI h_1159l h_1159u (by decide) (by decide)) ⟨by decide, by decide⟩ (fun c_1160 => ?_) (fun c_1160 => ?_)
                              · exact g_vret hx hr (dq tX7_pass 131 rfl) (fun u_ v_ huv_ => (((((f_1150 u_ v_ (by omega)).trans (m_1049 u_ v_ (by omega))).trans (m_899 u_ v_ (by omega))).trans (f_7 u_ v_ (by omega))).trans (m_3 u_ v_ (by omega))))
                              · refine g_aload_n (n := 233) hx 3 (dq tX7_pass 117 rfl) rfl rfl ?_
                                refine g_getR (n := 236) hx glX7_9 (sX7_0 (by decide)) (dq tX7_pass 118 rfl) rfl ?_
                                refine g_aload_n (n := 237) hx 3 (dq tX7_pass 119 rfl) rfl rfl ?_
                                refine g_getI (n := 240) hx glX7_22 (sX7_3 (by decide)) (dq tX7_pass 120 rfl) rfl (fun h_1161l h_1161u => ?_)
                                refine g_iald (n := 241) (q := (M_1147 7 3).toNat) hx (aX7_0 (b := 7) (by decide)) (dq tX7_pass 121 rfl) rfl (by omega) (by omega) (by omega) rfl (fun h_1162l h_1162u => ?_)
                                refine g_iload_n (n := 242) hx 0 (dq tX7_pass 122 rfl) rfl rfl ?_
                                refine g_icmp_gt (n := 245) (t := 258) hx (dq tX7_pass 123 rfl) (by decide) rfl (zrI h_1162l h_1162u (by decide) (by decide)) ⟨by decide, by decide⟩ (fun c_1163 => ?_) (fun c_1163 => ?_)
                                · exact g_vret hx hr (dq tX7_pass 131 rfl) (fun u_ v_ huv_ => (((((f_1150 u_ v_ (by omega)).trans (m_1049 u_ v_ (by omega))).trans (m_899 u_ v_ (by omega))).trans (f_7 u_ v_ (by omega))).trans (m_3 u_ v_ (by omega))))
                                · refine g_aload_n (n := 246) hx 3 (dq tX7_pass 124 rfl) rfl rfl ?_
                                  refine g_dup (n := 247) hx (dq tX7_pass 125 rfl) rfl rfl ?_
                                  refine g_getI (n := 250) hx glX7_22 (sX7_3 (by decide)) (dq tX7_pass 126 rfl) rfl (fun h_1164l h_1164u => ?_)
                                  refine g_iconst (n := 251) hx (dq tX7_pass 127 rfl) rfl ?_
                                  refine g_iadd (n := 252) hx (dq tX7_pass 128 rfl) rfl ?_
                                  refine g_putI (n := 255) hx plX7_22 (sX7_3 (by decide)) (dq tX7_pass 129 rfl) rfl (by omega) (by omega) (fun M_1165 m_1166e m_1166 => ?_)
                                  refine g_goto (n := 200) hx (dq tX7_pass 130 rfl) (by decide) ?_
                                  exact ih_1149 _ (by omega) M_1165 (fun u_ v_ huv_ => ((m_1166 u_ v_ (by omega)).trans (f_1150 u_ v_ (by omega)))) rfl
                      exact L_1148 _ M_1048 (fun _ _ _ => rfl) rfl
                · refine g_bipush (n := 135) hx (dq tX7_pass 66 rfl) rfl (by decide) ?_
                  refine g_istore_n (n := 136) (lv' := [(1, vI 61), (3, vI (M_1048 7 1)), (2, vI 256), (0, aR Γ 7)]) hx (dq tX7_pass 67 rfl) (by decide) rfl rfl ?_
                  refine g_bipush (n := 138) hx (dq tX7_pass 68 rfl) rfl (by decide) ?_
                  refine g_istore_n (n := 139) (lv' := [(2, vI 61), (1, vI 61), (3, vI (M_1048 7 1)), (0, aR Γ 7)]) hx (dq tX7_pass 69 rfl) (by decide) rfl rfl ?_
                  refine g_aload_n (n := 140) hx 3 (dq tX7_pass 70 rfl) rfl rfl ?_
                  refine g_getI (n := 143) hx glX7_28 (sX7_2 (by decide)) (dq tX7_pass 71 rfl) rfl (fun h_1167l h_1167u => ?_)
                  have e_1168 : M_1048 7 2 = M_898 7 2 := (m_1049 7 2 (by omega))
                  refine g_iconst (n := 144) hx (dq tX7_pass 72 rfl) rfl ?_
                  refine g_iadd (n := 145) hx (dq tX7_pass 73 rfl) rfl ?_
                  refine g_istore_n (n := 146) (lv' := [(3, vI ((M_1048 7 2) + 2)), (2, vI 61), (1, vI 61), (0, aR Γ 7)]) hx (dq tX7_pass 74 rfl) (by decide) rfl rfl ?_
                  refine g_goto (n := 200) hx (dq tX7_pass 75 rfl) (by decide) ?_
                  have L_1170 : ∀ (n_ : Nat) (M_1169 : zM), (∀ u_ v_, (u_ ≠ 7 ∨ v_ ≠ 3) → M_1169 u_ v_ = M_1048 u_ v_) → ((400 - M_1169 7 3).toNat = n_) → G Γ x 4 (QV Γ x (qctX7_pass M)) M_1169 200 [(3, vI ((M_1048 7 2) + 2)), (2, vI 61), (1, vI 61), (0, aR Γ 7)] [] := by
                    intro n_
                    induction n_ using Nat.strongRecOn with
                    | _ n_ ih_1171 =>
                      intro M_1169 f_1172 hm_1173
                      refine g_aload_n (n := 201) hx 3 (dq tX7_pass 101 rfl) rfl rfl ?_
                      refine g_getI (n := 204) hx glX7_22 (sX7_3 (by decide)) (dq tX7_pass 102 rfl) rfl (fun h_1174l h_1174u => ?_)
                      refine g_aload_n (n := 205) hx 3 (dq tX7_pass 103 rfl) rfl rfl ?_
                      refine g_getI (n := 208) hx glX7_15 (sX7_1 (by decide)) (dq tX7_pass 104 rfl) rfl (fun h_1175l h_1175u => ?_)
                      have e_1176 : M_1169 7 1 = M_1048 7 1 := (f_1172 7 1 (by omega))
                      refine g_icmp_ge (n := 211) (t := 258) hx (dq tX7_pass 105 rfl) (by decide) rfl (zrI h_1174l h_1174u (by decide) (by decide)) (zrI h_1175l h_1175u (by decide) (by decide)) (fun c_1177 => ?_) (fun c_1177 => ?_)
                      · exact g_vret hx hr (dq tX7_pass 131 rfl) (fun u_ v_ huv_ => (((((f_1172 u_ v_ (by omega)).trans (m_1049 u_ v_ (by omega))).trans (m_899 u_ v_ (by omega))).trans (f_7 u_ v_ (by omega))).trans (m_3 u_ v_ (by omega))))
                      · refine g_aload_n (n := 212) hx 3 (dq tX7_pass 106 rfl) rfl rfl ?_
                        refine g_getI (n := 215) hx glX7_22 (sX7_3 (by decide)) (dq tX7_pass 107 rfl) rfl (fun h_1178l h_1178u => ?_)
                        refine g_iload_n (n := 216) hx 0 (dq tX7_pass 108 rfl) rfl rfl ?_
                        refine g_icmp_ge (n := 219) (t := 258) hx (dq tX7_pass 109 rfl) (by decide) rfl (zrI h_1178l h_1178u (by decide) (by decide)) ⟨by omega, by omega⟩ (fun c_1179 => ?_) (fun c_1179 => ?_)
                        · exact g_vret hx hr (dq tX7_pass 131 rfl) (fun u_ v_ huv_ => (((((f_1172 u_ v_ (by omega)).trans (m_1049 u_ v_ (by omega))).trans (m_899 u_ v_ (by omega))).trans (f_7 u_ v_ (by omega))).trans (m_3 u_ v_ (by omega))))
                        · refine g_aload_n (n := 220) hx 3 (dq tX7_pass 110 rfl) rfl rfl ?_
                          refine g_getR (n := 223) hx glX7_9 (sX7_0 (by decide)) (dq tX7_pass 111 rfl) rfl ?_
                          refine g_aload_n (n := 224) hx 3 (dq tX7_pass 112 rfl) rfl rfl ?_
                          refine g_getI (n := 227) hx glX7_22 (sX7_3 (by decide)) (dq tX7_pass 113 rfl) rfl (fun h_1180l h_1180u => ?_)
                          refine g_iald (n := 228) (q := (M_1169 7 3).toNat) hx (aX7_0 (b := 7) (by decide)) (dq tX7_pass 114 rfl) rfl (by omega) (by omega) (by omega) rfl (fun h_1181l h_1181u => ?_)
                          refine g_iload_n (n := 229) hx 2 (dq tX7_pass 115 rfl) rfl rfl ?_
                          refine g_icmp_lt (n := 232) (t := 258) hx (dq tX7_pass 116 rfl) (by decide) rfl (zrI h_1181l h_1181u (by decide) (by decide)) ⟨by decide, by decide⟩ (fun c_1182 => ?_) (fun c_1182 => ?_)
                          · exact g_vret hx hr (dq tX7_pass 131 rfl) (fun u_ v_ huv_ => (((((f_1172 u_ v_ (by omega)).trans (m_1049 u_ v_ (by omega))).trans (m_899 u_ v_ (by omega))).trans (f_7 u_ v_ (by omega))).trans (m_3 u_ v_ (by omega))))
                          · refine g_aload_n (n := 233) hx 3 (dq tX7_pass 117 rfl) rfl rfl ?_
                            refine g_getR (n := 236) hx glX7_9 (sX7_0 (by decide)) (dq tX7_pass 118 rfl) rfl ?_
                            refine g_aload_n (n := 237) hx 3 (dq tX7_pass 119 rfl) rfl rfl ?_
                            refine g_getI (n := 240) hx glX7_22 (sX7_3 (by decide)) (dq tX7_pass 120 rfl) rfl (fun h_1183l h_1183u => ?_)
                            refine g_iald (n := 241) (q := (M_1169 7 3).toNat) hx (aX7_0 (b := 7) (by decide)) (dq tX7_pass 121 rfl) rfl (by omega) (by omega) (by omega) rfl (fun h_1184l h_1184u => ?_)
                            refine g_iload_n (n := 242) hx 1 (dq tX7_pass 122 rfl) rfl rfl ?_
                            refine g_icmp_gt (n := 245) (t := 258) hx (dq tX7_pass 123 rfl) (by decide) rfl (zrI h_1184l h_1184u (by decide) (by decide)) ⟨by decide, by decide⟩ (fun c_1185 => ?_) (fun c_1185 => ?_)
                            · exact g_vret hx hr (dq tX7_pass 131 rfl) (fun u_ v_ huv_ => (((((f_1172 u_ v_ (by omega)).trans (m_1049 u_ v_ (by omega))).trans (m_899 u_ v_ (by omega))).trans (f_7 u_ v_ (by omega))).trans (m_3 u_ v_ (by omega))))
                            · refine g_aload_n (n := 246) hx 3 (dq tX7_pass 124 rfl) rfl rfl ?_
                              refine g_dup (n := 247) hx (dq tX7_pass 125 rfl) rfl rfl ?_
                              refine g_getI (n := 250) hx glX7_22 (sX7_3 (by decide)) (dq tX7_pass 126 rfl) rfl (fun h_1186l h_1186u => ?_)
                              refine g_iconst (n := 251) hx (dq tX7_pass 127 rfl) rfl ?_
                              refine g_iadd (n := 252) hx (dq tX7_pass 128 rfl) rfl ?_
                              refine g_putI (n := 255) hx plX7_22 (sX7_3 (by decide)) (dq tX7_pass 129 rfl) rfl (by omega) (by omega) (fun M_1187 m_1188e m_1188 => ?_)
                              refine g_goto (n := 200) hx (dq tX7_pass 130 rfl) (by decide) ?_
                              exact ih_1171 _ (by omega) M_1187 (fun u_ v_ huv_ => ((m_1188 u_ v_ (by omega)).trans (f_1172 u_ v_ (by omega)))) rfl
                  exact L_1170 _ M_1048 (fun _ _ _ => rfl) rfl
        · refine g_aload_n (n := 34) hx 0 (dq tX7_pass 16 rfl) rfl rfl ?_
          refine g_dup (n := 35) hx (dq tX7_pass 17 rfl) rfl rfl ?_
          refine g_getI (n := 38) hx glX7_28 (sX7_2 (by decide)) (dq tX7_pass 18 rfl) rfl (fun h_1189l h_1189u => ?_)
          refine g_iconst (n := 39) hx (dq tX7_pass 19 rfl) rfl ?_
          refine g_iadd (n := 40) hx (dq tX7_pass 20 rfl) rfl ?_
          refine g_putI (n := 43) hx plX7_28 (sX7_2 (by decide)) (dq tX7_pass 21 rfl) rfl (by omega) (by omega) (fun M_1190 m_1191e m_1191 => ?_)
          refine g_goto (n := 8) hx (dq tX7_pass 22 rfl) (by decide) ?_
          exact ih_6 _ (by omega) M_1190 (fun u_ v_ huv_ => ((m_1191 u_ v_ (by omega)).trans (f_7 u_ v_ (by omega)))) rfl
  exact L_5 _ M_2 (fun _ _ _ => rfl) rfl

abbrev qctX7_rewind (M : zM)  (M' : zM) : Prop := (∀ u_ v_, (u_ ≠ 7 ∨ v_ ≠ 2) ∧ (u_ ≠ 7 ∨ v_ ≠ 3) ∧ (u_ ≠ 7 ∨ v_ ≠ 4) ∧ (u_ ≠ 7 ∨ v_ ≠ 5) → M' u_ v_ = M u_ v_) ∧ (M' 7 5 = 0)
set_option maxHeartbeats 4000000 in
set_option maxRecDepth 100000 in
theorem ctX7_rewind (Γ : Gam) (M : zM)   : CtV Γ yX7_rewind cX7_rewind 1 none 1 23 [aR Γ 7] M (qctX7_rewind M) := by
  refine met_v (by decide) (Nat.le_of_ble_eq_true rfl) (fun x hx hr => ?_)
  show G Γ x 1 (QV Γ x (qctX7_rewind M)) M 0 [(0, aR Γ 7)] []
  refine g_aload_n (n := 1) hx 0 (dq tX7_rewind 0 rfl) rfl rfl ?_
  refine g_iconst (n := 2) hx (dq tX7_rewind 1 rfl) rfl ?_
  refine g_putI (n := 5) hx plX7_19 (sX7_5 (by decide)) (dq tX7_rewind 2 rfl) rfl (by omega) (by omega) (fun M_1 m_2e m_2 => ?_)
  refine g_aload_n (n := 6) hx 0 (dq tX7_rewind 3 rfl) rfl rfl ?_
  refine g_iconst (n := 7) hx (dq tX7_rewind 4 rfl) rfl ?_
  refine g_putI (n := 10) hx plX7_22 (sX7_3 (by decide)) (dq tX7_rewind 5 rfl) rfl (by omega) (by omega) (fun M_3 m_4e m_4 => ?_)
  refine g_aload_n (n := 11) hx 0 (dq tX7_rewind 6 rfl) rfl rfl ?_
  refine g_callVv (n := 14) (As := []) (rest := []) hx (ctX7_pass Γ M_3 ) mlX7_25 (obX7 (by decide)) (dq tX7_rewind 7 rfl) rfl (Nat.le_of_ble_eq_true rfl) (Nat.le_of_ble_eq_true rfl) (Nat.le_of_ble_eq_true rfl) rfl (fun M_6 p_8 => ?_)
  have f_9 := p_8
  exact g_vret hx hr (dq tX7_rewind 8 rfl) ⟨(fun u_ v_ huv_ => (((f_9 u_ v_ (by omega)).trans (m_4 u_ v_ (by omega))).trans (m_2 u_ v_ (by omega)))), ((((f_9 7 5 (by omega)).trans (m_4 7 5 (by omega)))).trans m_2e)⟩

abbrev qctX7_fails (M : zM) (kind : Int) (z : Int) (M' : zM) : Prop := (∀ u_ v_, (u_ ≠ 7 ∨ v_ ≠ 5) → M' u_ v_ = M u_ v_) ∧ (z = 0) ∧ (1 ≤ M' 7 5)
set_option maxHeartbeats 4000000 in
set_option maxRecDepth 100000 in
theorem ctX7_fails (Γ : Gam) (M : zM) (kind : Int) (hkindl : 0 ≤ kind) (hkindu : kind ≤ 4)  : CtI Γ yX7_fails cX7_fails 2 (some .boolean) 0 0 [aR Γ 7, vI kind] M (qctX7_fails M kind) := by
  refine met_i (by decide) (Nat.le_of_ble_eq_true rfl) (fun x hx hr => ?_)
  show G Γ x 2 (QI Γ x (qctX7_fails M kind)) M 0 [(0, aR Γ 7), (1, vI kind)] []
  refine g_aload_n (n := 1) hx 0 (dq tX7_fails 0 rfl) rfl rfl ?_
  refine g_iconst (n := 2) hx (dq tX7_fails 1 rfl) rfl ?_
  refine g_bipush (n := 4) hx (dq tX7_fails 2 rfl) rfl (by decide) ?_
  refine g_aload_n (n := 5) hx 0 (dq tX7_fails 3 rfl) rfl rfl ?_
  refine g_getI (n := 8) hx glX7_28 (sX7_2 (by decide)) (dq tX7_fails 4 rfl) rfl (fun h_1l h_1u => ?_)
  refine g_imul (n := 9) hx (dq tX7_fails 5 rfl) rfl ?_
  refine g_iadd (n := 10) hx (dq tX7_fails 6 rfl) rfl ?_
  refine g_iload_n (n := 11) hx 1 (dq tX7_fails 7 rfl) rfl rfl ?_
  refine g_iadd (n := 12) hx (dq tX7_fails 8 rfl) rfl ?_
  refine g_putI (n := 15) hx plX7_19 (sX7_5 (by decide)) (dq tX7_fails 9 rfl) rfl (by omega) (by omega) (fun M_2 m_3e m_3 => ?_)
  refine g_iconst (n := 16) hx (dq tX7_fails 10 rfl) rfl ?_
  exact g_zret hx hr (dq tX7_fails 11 rfl) (by omega) ⟨(fun u_ v_ huv_ => (m_3 u_ v_ (by omega))), (by omega), (by omega)⟩

abbrev qctX7_isNumber (M : zM)  (z : Int) (M' : zM) : Prop := M = M' ∧ (z = 0 ∨ (z = 1))
set_option maxHeartbeats 4000000 in
set_option maxRecDepth 100000 in
theorem ctX7_isNumber (Γ : Gam) (M : zM)   : CtI Γ yX7_isNumber cX7_isNumber 1 (some .boolean) 0 0 [aR Γ 7] M (qctX7_isNumber M) := by
  refine met_i (by decide) (Nat.le_of_ble_eq_true rfl) (fun x hx hr => ?_)
  show G Γ x 1 (QI Γ x (qctX7_isNumber M)) M 0 [(0, aR Γ 7)] []
  refine g_aload_n (n := 1) hx 0 (dq tX7_isNumber 0 rfl) rfl rfl ?_
  refine g_getI (n := 4) hx glX7_31 (sX7_4 (by decide)) (dq tX7_isNumber 1 rfl) rfl (fun h_1l h_1u => ?_)
  refine g_bipush (n := 6) hx (dq tX7_isNumber 2 rfl) rfl (by decide) ?_
  refine g_icmp_lt (n := 9) (t := 22) hx (dq tX7_isNumber 3 rfl) (by decide) rfl (zrI h_1l h_1u (by decide) (by decide)) ⟨by decide, by decide⟩ (fun c_2 => ?_) (fun c_2 => ?_)
  · refine g_iconst (n := 23) hx (dq tX7_isNumber 10 rfl) rfl ?_
    exact g_zret hx hr (dq tX7_isNumber 11 rfl) (by omega) ⟨rfl, (by omega)⟩
  · refine g_aload_n (n := 10) hx 0 (dq tX7_isNumber 4 rfl) rfl rfl ?_
    refine g_getI (n := 13) hx glX7_31 (sX7_4 (by decide)) (dq tX7_isNumber 5 rfl) rfl (fun h_3l h_3u => ?_)
    refine g_bipush (n := 15) hx (dq tX7_isNumber 6 rfl) rfl (by decide) ?_
    refine g_icmp_gt (n := 18) (t := 22) hx (dq tX7_isNumber 7 rfl) (by decide) rfl (zrI h_3l h_3u (by decide) (by decide)) ⟨by decide, by decide⟩ (fun c_4 => ?_) (fun c_4 => ?_)
    · refine g_iconst (n := 23) hx (dq tX7_isNumber 10 rfl) rfl ?_
      exact g_zret hx hr (dq tX7_isNumber 11 rfl) (by omega) ⟨rfl, (by omega)⟩
    · refine g_iconst (n := 19) hx (dq tX7_isNumber 8 rfl) rfl ?_
      refine g_goto (n := 23) hx (dq tX7_isNumber 9 rfl) (by decide) ?_
      exact g_zret hx hr (dq tX7_isNumber 11 rfl) (by omega) ⟨rfl, (by omega)⟩

abbrev qctX7_number (M : zM)  (z : Int) (M' : zM) : Prop := M = M'
set_option maxHeartbeats 4000000 in
set_option maxRecDepth 100000 in
theorem ctX7_number (Γ : Gam) (M : zM)   : CtI Γ yX7_number cX7_number 3 (some .int) 0 0 [aR Γ 7] M (qctX7_number M) := by
  refine met_i (by decide) (Nat.le_of_ble_eq_true rfl) (fun x hx hr => ?_)
  show G Γ x 3 (QI Γ x (qctX7_number M)) M 0 [(0, aR Γ 7)] []
  refine g_aload_n (n := 1) hx 0 (dq tX7_number 0 rfl) rfl rfl ?_
  refine g_getI (n := 4) hx glX7_22 (sX7_3 (by decide)) (dq tX7_number 1 rfl) rfl (fun h_1l h_1u => ?_)
  refine g_aload_n (n := 5) hx 0 (dq tX7_number 2 rfl) rfl rfl ?_
  refine g_getI (n := 8) hx glX7_28 (sX7_2 (by decide)) (dq tX7_number 3 rfl) rfl (fun h_2l h_2u => ?_)
  refine g_isub (n := 9) hx (dq tX7_number 4 rfl) rfl ?_
  refine g_iconst (n := 10) hx (dq tX7_number 5 rfl) rfl ?_
  refine g_icmp_le (n := 13) (t := 15) hx (dq tX7_number 6 rfl) (by decide) rfl ⟨by omega, by omega⟩ ⟨by decide, by decide⟩ (fun c_3 => ?_) (fun c_3 => ?_)
  · refine g_iconst (n := 16) hx (dq tX7_number 9 rfl) rfl ?_
    refine g_istore_n (n := 17) (lv' := [(1, vI 0), (0, aR Γ 7)]) hx (dq tX7_number 10 rfl) (by decide) rfl rfl ?_
    refine g_aload_n (n := 18) hx 1 (dq tX7_number 11 rfl) rfl rfl ?_
    refine g_getI (n := 21) hx glX7_28 (sX7_2 (by decide)) (dq tX7_number 12 rfl) rfl (fun h_4l h_4u => ?_)
    refine g_istore_n (n := 22) (lv' := [(2, vI (M 7 2)), (1, vI 0), (0, aR Γ 7)]) hx (dq tX7_number 13 rfl) (by decide) rfl rfl ?_
    have L_7 : ∀ (n_ : Nat) (i_5 : Int) (i_6 : Int), (0 ≤ i_5) → (i_5 ≤ 400) → ((-2147483648) ≤ i_6) → (i_6 ≤ 2147483647) → ((400 - i_5).toNat = n_) → G Γ x 3 (QI Γ x (qctX7_number M)) M 22 [(2, vI i_5), (1, vI i_6), (0, aR Γ 7)] [] := by
      intro n_
      induction n_ using Nat.strongRecOn with
      | _ n_ ih_8 =>
        intro i_5 i_6 h_11 h_12 h_13 h_14 hm_10
        refine g_iload_n (n := 23) hx 0 (dq tX7_number 14 rfl) rfl rfl ?_
        refine g_aload_n (n := 24) hx 2 (dq tX7_number 15 rfl) rfl rfl ?_
        refine g_getI (n := 27) hx glX7_22 (sX7_3 (by decide)) (dq tX7_number 16 rfl) rfl (fun h_15l h_15u => ?_)
        refine g_icmp_ge (n := 30) (t := 51) hx (dq tX7_number 17 rfl) (by decide) rfl ⟨by omega, by omega⟩ (zrI h_15l h_15u (by decide) (by decide)) (fun c_16 => ?_) (fun c_16 => ?_)
        · refine g_iload_n (n := 52) hx 1 (dq tX7_number 31 rfl) rfl rfl ?_
          exact g_iret hx hr (dq tX7_number 32 rfl) ⟨by omega, by omega⟩ rfl
        · refine g_iload_n (n := 31) hx 1 (dq tX7_number 18 rfl) rfl rfl ?_
          refine g_bipush (n := 33) hx (dq tX7_number 19 rfl) rfl (by decide) ?_
          refine g_imul (n := 34) hx (dq tX7_number 20 rfl) rfl ?_
          refine g_aload_n (n := 35) hx 2 (dq tX7_number 21 rfl) rfl rfl ?_
          refine g_getR (n := 38) hx glX7_9 (sX7_0 (by decide)) (dq tX7_number 22 rfl) rfl ?_
          refine g_iload_n (n := 39) hx 0 (dq tX7_number 23 rfl) rfl rfl ?_
          refine g_iald (n := 40) (q := i_5.toNat) hx (aX7_0 (b := 7) (by decide)) (dq tX7_number 24 rfl) rfl (by omega) (by omega) (by omega) rfl (fun h_17l h_17u => ?_)
          refine g_iadd (n := 41) hx (dq tX7_number 25 rfl) rfl ?_
          refine g_bipush (n := 43) hx (dq tX7_number 26 rfl) rfl (by decide) ?_
          refine g_isub (n := 44) hx (dq tX7_number 27 rfl) rfl ?_
          refine g_any (fun z_18 h_19 => ?_)
          refine g_istore_n (n := 45) (lv' := [(1, vI z_18), (2, vI i_5), (0, aR Γ 7)]) hx (dq tX7_number 28 rfl) (by decide) rfl rfl ?_
          refine g_iinc (n := 48) (lv' := [(2, vI (i_5 + 1)), (1, vI z_18), (0, aR Γ 7)]) hx 1 (dq tX7_number 29 rfl) rfl (by decide) rfl rfl ?_
          refine g_goto (n := 22) hx (dq tX7_number 30 rfl) (by decide) ?_
          exact ih_8 _ (by omega) (i_5 + 1) z_18 (by omega) (by omega) (by omega) (by omega) rfl
    exact L_7 _ (M 7 2) 0 (by omega) (by omega) (by omega) (by omega) rfl
  · refine g_iconst (n := 14) hx (dq tX7_number 7 rfl) rfl ?_
    exact g_iret hx hr (dq tX7_number 8 rfl) ⟨by decide, by decide⟩ rfl

abbrev qctX7_isLong (M : zM)  (z : Int) (M' : zM) : Prop := M = M' ∧ (z = 0 ∨ (z = 1))
set_option maxHeartbeats 4000000 in
set_option maxRecDepth 100000 in
theorem ctX7_isLong (Γ : Gam) (M : zM)   : CtI Γ yX7_isLong cX7_isLong 1 (some .boolean) 0 0 [aR Γ 7] M (qctX7_isLong M) := by
  refine met_i (by decide) (Nat.le_of_ble_eq_true rfl) (fun x hx hr => ?_)
  show G Γ x 1 (QI Γ x (qctX7_isLong M)) M 0 [(0, aR Γ 7)] []
  refine g_aload_n (n := 1) hx 0 (dq tX7_isLong 0 rfl) rfl rfl ?_
  refine g_getI (n := 4) hx glX7_22 (sX7_3 (by decide)) (dq tX7_isLong 1 rfl) rfl (fun h_1l h_1u => ?_)
  refine g_aload_n (n := 5) hx 0 (dq tX7_isLong 2 rfl) rfl rfl ?_
  refine g_getI (n := 8) hx glX7_28 (sX7_2 (by decide)) (dq tX7_isLong 3 rfl) rfl (fun h_2l h_2u => ?_)
  refine g_isub (n := 9) hx (dq tX7_isLong 4 rfl) rfl ?_
  refine g_iconst (n := 10) hx (dq tX7_isLong 5 rfl) rfl ?_
  refine g_icmp_le (n := 13) (t := 17) hx (dq tX7_isLong 6 rfl) (by decide) rfl ⟨by omega, by omega⟩ ⟨by decide, by decide⟩ (fun c_3 => ?_) (fun c_3 => ?_)
  · refine g_iconst (n := 18) hx (dq tX7_isLong 9 rfl) rfl ?_
    exact g_zret hx hr (dq tX7_isLong 10 rfl) (by omega) ⟨rfl, (by omega)⟩
  · refine g_iconst (n := 14) hx (dq tX7_isLong 7 rfl) rfl ?_
    refine g_goto (n := 18) hx (dq tX7_isLong 8 rfl) (by decide) ?_
    exact g_zret hx hr (dq tX7_isLong 10 rfl) (by omega) ⟨rfl, (by omega)⟩

abbrev qctX7_wordIn (M : zM) (w : Nat) (z : Int) (M' : zM) : Prop := M = M'
set_option maxHeartbeats 4000000 in
set_option maxRecDepth 100000 in
theorem ctX7_wordIn (Γ : Gam) (M : zM) (w : Nat) (qw : String × Nat × String × Nat) (hw : sN[w]? = some qw) (hwn : qw.2.2.2 ≤ 100)  : CtI Γ yX7_wordIn cX7_wordIn 6 (some .int) 4 85 [aR Γ 7, sR Γ w] M (qctX7_wordIn M w) := by
  refine met_i (by decide) (Nat.le_of_ble_eq_true rfl) (fun x hx hr => ?_)
  show G Γ x 6 (QI Γ x (qctX7_wordIn M w)) M 0 [(0, aR Γ 7), (1, sR Γ w)] []
  refine g_aload_n (n := 1) hx 0 (dq tX7_wordIn 0 rfl) rfl rfl ?_
  refine g_getI (n := 4) hx glX7_22 (sX7_3 (by decide)) (dq tX7_wordIn 1 rfl) rfl (fun h_1l h_1u => ?_)
  refine g_aload_n (n := 5) hx 0 (dq tX7_wordIn 2 rfl) rfl rfl ?_
  refine g_getI (n := 8) hx glX7_28 (sX7_2 (by decide)) (dq tX7_wordIn 3 rfl) rfl (fun h_2l h_2u => ?_)
  refine g_isub (n := 9) hx (dq tX7_wordIn 4 rfl) rfl ?_
  refine g_istore_n (n := 10) (lv' := [(2, vI ((M 7 3) - (M 7 2))), (0, aR Γ 7), (1, sR Γ w)]) hx (dq tX7_wordIn 5 rfl) (by decide) rfl rfl ?_
  refine g_iconst (n := 11) hx (dq tX7_wordIn 6 rfl) rfl ?_
  refine g_istore_n (n := 12) (lv' := [(3, vI 0), (2, vI ((M 7 3) - (M 7 2))), (0, aR Γ 7), (1, sR Γ w)]) hx (dq tX7_wordIn 7 rfl) (by decide) rfl rfl ?_
  refine g_iconst (n := 13) hx (dq tX7_wordIn 8 rfl) rfl ?_
  refine g_istore (n := 15) (lv' := [(4, vI 0), (3, vI 0), (2, vI ((M 7 3) - (M 7 2))), (0, aR Γ 7), (1, sR Γ w)]) hx (dq tX7_wordIn 9 rfl) (by decide) rfl rfl ?_
  refine g_iconst (n := 16) hx (dq tX7_wordIn 10 rfl) rfl ?_
  refine g_istore (n := 18) (lv' := [(5, vI 0), (4, vI 0), (3, vI 0), (2, vI ((M 7 3) - (M 7 2))), (0, aR Γ 7), (1, sR Γ w)]) hx (dq tX7_wordIn 11 rfl) (by decide) rfl rfl ?_
  have L_6 : ∀ (n_ : Nat) (i_3 : Int) (i_4 : Int) (i_5 : Int), (0 ≤ i_3) → (i_3 ≤ 101) → ((-1) ≤ i_4) → (i_4 ≤ 400) → ((-2147483648) ≤ i_5) → (i_5 ≤ 2147483647) → ((101 - i_3).toNat = n_) → G Γ x 6 (QI Γ x (qctX7_wordIn M w)) M 18 [(5, vI i_3), (4, vI i_4), (3, vI i_5), (2, vI ((M 7 3) - (M 7 2))), (0, aR Γ 7), (1, sR Γ w)] [] := by
    intro n_
    induction n_ using Nat.strongRecOn with
    | _ n_ ih_7 =>
      intro i_3 i_4 i_5 h_10 h_11 h_12 h_13 h_14 h_15 hm_9
      refine g_iload (n := 20) hx 0 (dq tX7_wordIn 12 rfl) rfl rfl ?_
      refine g_aload_nS (n := 21) hx 5 (dq tX7_wordIn 13 rfl) rfl rfl ?_
      refine g_callSt (n := 24) (As := []) (rest := [vI i_3]) hx (ctJ0_length_8abf5 Γ M w _ hw) mlX7_34 rfl hw (dq tX7_wordIn 14 rfl) rfl (Nat.le_of_ble_eq_true rfl) (Nat.le_of_ble_eq_true rfl) (Nat.le_of_ble_eq_true rfl) rfl (fun z_16 M_17 h_18 p_19 => ?_)
      obtain ⟨rfl, h_20⟩ := p_19
      refine g_icmp_gt (n := 27) (t := 116) hx (dq tX7_wordIn 15 rfl) (by decide) rfl ⟨by omega, by omega⟩ h_18 (fun c_21 => ?_) (fun c_21 => ?_)
      · refine g_iconst (n := 117) hx (dq tX7_wordIn 60 rfl) rfl ?_
        exact g_iret hx hr (dq tX7_wordIn 61 rfl) ⟨by decide, by decide⟩ rfl
      · refine g_iload_n (n := 28) hx 3 (dq tX7_wordIn 16 rfl) rfl rfl ?_
        refine g_if_le (n := 31) (t := 116) hx (dq tX7_wordIn 17 rfl) (by decide) rfl ⟨by omega, by omega⟩ (fun c_22 => ?_) (fun c_22 => ?_)
        · refine g_iconst (n := 117) hx (dq tX7_wordIn 60 rfl) rfl ?_
          exact g_iret hx hr (dq tX7_wordIn 61 rfl) ⟨by decide, by decide⟩ rfl
        · refine g_iload (n := 33) hx 0 (dq tX7_wordIn 18 rfl) rfl rfl ?_
          refine g_aload_nS (n := 34) hx 5 (dq tX7_wordIn 19 rfl) rfl rfl ?_
          refine g_callSt (n := 37) (As := []) (rest := [vI i_3]) hx (ctJ0_length_8abf5 Γ M w _ hw) mlX7_34 rfl hw (dq tX7_wordIn 20 rfl) rfl (Nat.le_of_ble_eq_true rfl) (Nat.le_of_ble_eq_true rfl) (Nat.le_of_ble_eq_true rfl) rfl (fun z_23 M_24 h_25 p_26 => ?_)
          obtain ⟨rfl, h_27⟩ := p_26
          refine g_icmp_eq (n := 40) (t := 51) hx (dq tX7_wordIn 21 rfl) (by decide) rfl ⟨by omega, by omega⟩ h_25 (fun c_28 => ?_) (fun c_28 => ?_)
          · refine g_iload (n := 53) hx 1 (dq tX7_wordIn 27 rfl) rfl rfl ?_
            refine g_iload_n (n := 54) hx 3 (dq tX7_wordIn 28 rfl) rfl rfl ?_
            refine g_icmp_ne (n := 57) (t := 59) hx (dq tX7_wordIn 29 rfl) (by decide) rfl ⟨by omega, by omega⟩ ⟨by omega, by omega⟩ (fun c_29 => ?_) (fun c_29 => ?_)
            · refine g_iinc (n := 62) (lv' := [(3, vI (i_5 + 1)), (5, vI i_3), (4, vI i_4), (2, vI ((M 7 3) - (M 7 2))), (0, aR Γ 7), (1, sR Γ w)]) hx 2 (dq tX7_wordIn 32 rfl) rfl (by decide) rfl rfl ?_
              refine g_anyl (fun z_30 h_31 => ?_)
              refine g_iconst (n := 63) hx (dq tX7_wordIn 33 rfl) rfl ?_
              refine g_istore (n := 65) (lv' := [(4, vI 0), (3, vI z_30), (5, vI i_3), (2, vI ((M 7 3) - (M 7 2))), (0, aR Γ 7), (1, sR Γ w)]) hx (dq tX7_wordIn 34 rfl) (by decide) rfl rfl ?_
              refine g_goto (n := 110) hx (dq tX7_wordIn 35 rfl) (by decide) ?_
              refine g_iinc (n := 113) (lv' := [(5, vI (i_3 + 1)), (4, vI 0), (3, vI z_30), (2, vI ((M 7 3) - (M 7 2))), (0, aR Γ 7), (1, sR Γ w)]) hx 2 (dq tX7_wordIn 58 rfl) rfl (by decide) rfl rfl ?_
              refine g_goto (n := 18) hx (dq tX7_wordIn 59 rfl) (by decide) ?_
              exact ih_7 _ (by omega) (i_3 + 1) 0 z_30 (by omega) (by omega) (by omega) (by omega) (by omega) (by omega) rfl
            · refine g_iload_n (n := 58) hx 2 (dq tX7_wordIn 30 rfl) rfl rfl ?_
              exact g_iret hx hr (dq tX7_wordIn 31 rfl) ⟨by omega, by omega⟩ rfl
          · refine g_aload_nS (n := 41) hx 5 (dq tX7_wordIn 22 rfl) rfl rfl ?_
            refine g_iload (n := 43) hx 0 (dq tX7_wordIn 23 rfl) rfl rfl ?_
            refine g_callSt (n := 46) (As := [vI i_3]) (rest := []) hx (ctJ0_charAt_5068e Γ M w _ hw i_3 (by omega) (by omega)) mlX7_40 rfl hw (dq tX7_wordIn 24 rfl) rfl (Nat.le_of_ble_eq_true rfl) (Nat.le_of_ble_eq_true rfl) (Nat.le_of_ble_eq_true rfl) rfl (fun z_32 M_33 h_34 p_35 => ?_)
            obtain ⟨rfl, h_361, h_362⟩ := p_35
            refine g_bipush (n := 48) hx (dq tX7_wordIn 25 rfl) rfl (by decide) ?_
            refine g_icmp_ne (n := 51) (t := 68) hx (dq tX7_wordIn 26 rfl) (by decide) rfl h_34 ⟨by decide, by decide⟩ (fun c_37 => ?_) (fun c_37 => ?_)
            · refine g_iload (n := 70) hx 1 (dq tX7_wordIn 36 rfl) rfl rfl ?_
              refine g_if_lt (n := 73) (t := 110) hx (dq tX7_wordIn 37 rfl) (by decide) rfl ⟨by omega, by omega⟩ (fun c_38 => ?_) (fun c_38 => ?_)
              · refine g_iinc (n := 113) (lv' := [(5, vI (i_3 + 1)), (4, vI i_4), (3, vI i_5), (2, vI ((M 7 3) - (M 7 2))), (0, aR Γ 7), (1, sR Γ w)]) hx 0 (dq tX7_wordIn 58 rfl) rfl (by decide) rfl rfl ?_
                refine g_goto (n := 18) hx (dq tX7_wordIn 59 rfl) (by decide) ?_
                exact ih_7 _ (by omega) (i_3 + 1) i_4 i_5 (by omega) (by omega) (by omega) (by omega) (by omega) (by omega) rfl
              · refine g_iload (n := 75) hx 1 (dq tX7_wordIn 38 rfl) rfl rfl ?_
                refine g_iload_n (n := 76) hx 3 (dq tX7_wordIn 39 rfl) rfl rfl ?_
                refine g_icmp_ge (n := 79) (t := 107) hx (dq tX7_wordIn 40 rfl) (by decide) rfl ⟨by omega, by omega⟩ ⟨by omega, by omega⟩ (fun c_39 => ?_) (fun c_39 => ?_)
                · refine g_iconst (n := 108) hx (dq tX7_wordIn 56 rfl) rfl ?_
                  refine g_istore (n := 110) (lv' := [(4, vI (-1)), (5, vI i_3), (3, vI i_5), (2, vI ((M 7 3) - (M 7 2))), (0, aR Γ 7), (1, sR Γ w)]) hx (dq tX7_wordIn 57 rfl) (by decide) rfl rfl ?_
                  refine g_iinc (n := 113) (lv' := [(5, vI (i_3 + 1)), (4, vI (-1)), (3, vI i_5), (2, vI ((M 7 3) - (M 7 2))), (0, aR Γ 7), (1, sR Γ w)]) hx 1 (dq tX7_wordIn 58 rfl) rfl (by decide) rfl rfl ?_
                  refine g_goto (n := 18) hx (dq tX7_wordIn 59 rfl) (by decide) ?_
                  exact ih_7 _ (by omega) (i_3 + 1) (-1) i_5 (by omega) (by omega) (by omega) (by omega) (by omega) (by omega) rfl
                · refine g_aload_n (n := 80) hx 4 (dq tX7_wordIn 41 rfl) rfl rfl ?_
                  refine g_getR (n := 83) hx glX7_9 (sX7_0 (by decide)) (dq tX7_wordIn 42 rfl) rfl ?_
                  refine g_aload_n (n := 84) hx 4 (dq tX7_wordIn 43 rfl) rfl rfl ?_
                  refine g_getI (n := 87) hx glX7_28 (sX7_2 (by decide)) (dq tX7_wordIn 44 rfl) rfl (fun h_40l h_40u => ?_)
                  refine g_iload (n := 89) hx 1 (dq tX7_wordIn 45 rfl) rfl rfl ?_
                  refine g_iadd (n := 90) hx (dq tX7_wordIn 46 rfl) rfl ?_
                  refine g_iald (n := 91) (q := ((M 7 2) + i_4).toNat) hx (aX7_0 (b := 7) (by decide)) (dq tX7_wordIn 47 rfl) rfl (by omega) (by omega) (by omega) rfl (fun h_41l h_41u => ?_)
                  refine g_aload_nS (n := 92) hx 5 (dq tX7_wordIn 48 rfl) rfl rfl ?_
                  refine g_iload (n := 94) hx 0 (dq tX7_wordIn 49 rfl) rfl rfl ?_
                  refine g_callSt (n := 97) (As := [vI i_3]) (rest := [vI (M (7 + 1) (((M 7 2) + i_4).toNat))]) hx (ctJ0_charAt_5068e Γ M w _ hw i_3 (by omega) (by omega)) mlX7_40 rfl hw (dq tX7_wordIn 50 rfl) rfl (Nat.le_of_ble_eq_true rfl) (Nat.le_of_ble_eq_true rfl) (Nat.le_of_ble_eq_true rfl) rfl (fun z_42 M_43 h_44 p_45 => ?_)
                  obtain ⟨rfl, h_461, h_462⟩ := p_45
                  refine g_icmp_ne (n := 100) (t := 107) hx (dq tX7_wordIn 51 rfl) (by decide) rfl (zrI h_41l h_41u (by decide) (by decide)) h_44 (fun c_47 => ?_) (fun c_47 => ?_)
                  · refine g_iconst (n := 108) hx (dq tX7_wordIn 56 rfl) rfl ?_
                    refine g_istore (n := 110) (lv' := [(4, vI (-1)), (5, vI i_3), (3, vI i_5), (2, vI ((M 7 3) - (M 7 2))), (0, aR Γ 7), (1, sR Γ w)]) hx (dq tX7_wordIn 57 rfl) (by decide) rfl rfl ?_
                    refine g_iinc (n := 113) (lv' := [(5, vI (i_3 + 1)), (4, vI (-1)), (3, vI i_5), (2, vI ((M 7 3) - (M 7 2))), (0, aR Γ 7), (1, sR Γ w)]) hx 1 (dq tX7_wordIn 58 rfl) rfl (by decide) rfl rfl ?_
                    refine g_goto (n := 18) hx (dq tX7_wordIn 59 rfl) (by decide) ?_
                    exact ih_7 _ (by omega) (i_3 + 1) (-1) i_5 (by omega) (by omega) (by omega) (by omega) (by omega) (by omega) rfl
                  · refine g_iload (n := 102) hx 1 (dq tX7_wordIn 52 rfl) rfl rfl ?_
                    refine g_iconst (n := 103) hx (dq tX7_wordIn 53 rfl) rfl ?_
                    refine g_iadd (n := 104) hx (dq tX7_wordIn 54 rfl) rfl ?_
                    refine g_goto (n := 108) hx (dq tX7_wordIn 55 rfl) (by decide) ?_
                    refine g_istore (n := 110) (lv' := [(4, vI (i_4 + 1)), (5, vI i_3), (3, vI i_5), (2, vI ((M 7 3) - (M 7 2))), (0, aR Γ 7), (1, sR Γ w)]) hx (dq tX7_wordIn 57 rfl) (by decide) rfl rfl ?_
                    refine g_iinc (n := 113) (lv' := [(5, vI (i_3 + 1)), (4, vI (i_4 + 1)), (3, vI i_5), (2, vI ((M 7 3) - (M 7 2))), (0, aR Γ 7), (1, sR Γ w)]) hx 1 (dq tX7_wordIn 58 rfl) rfl (by decide) rfl rfl ?_
                    refine g_goto (n := 18) hx (dq tX7_wordIn 59 rfl) (by decide) ?_
                    exact ih_7 _ (by omega) (i_3 + 1) (i_4 + 1) i_5 (by omega) (by omega) (by omega) (by omega) (by omega) (by omega) rfl
            · refine g_iload (n := 53) hx 1 (dq tX7_wordIn 27 rfl) rfl rfl ?_
              refine g_iload_n (n := 54) hx 3 (dq tX7_wordIn 28 rfl) rfl rfl ?_
              refine g_icmp_ne (n := 57) (t := 59) hx (dq tX7_wordIn 29 rfl) (by decide) rfl ⟨by omega, by omega⟩ ⟨by omega, by omega⟩ (fun c_48 => ?_) (fun c_48 => ?_)
              · refine g_iinc (n := 62) (lv' := [(3, vI (i_5 + 1)), (5, vI i_3), (4, vI i_4), (2, vI ((M 7 3) - (M 7 2))), (0, aR Γ 7), (1, sR Γ w)]) hx 2 (dq tX7_wordIn 32 rfl) rfl (by decide) rfl rfl ?_
                refine g_anyl (fun z_49 h_50 => ?_)
                refine g_iconst (n := 63) hx (dq tX7_wordIn 33 rfl) rfl ?_
                refine g_istore (n := 65) (lv' := [(4, vI 0), (3, vI z_49), (5, vI i_3), (2, vI ((M 7 3) - (M 7 2))), (0, aR Γ 7), (1, sR Γ w)]) hx (dq tX7_wordIn 34 rfl) (by decide) rfl rfl ?_
                refine g_goto (n := 110) hx (dq tX7_wordIn 35 rfl) (by decide) ?_
                refine g_iinc (n := 113) (lv' := [(5, vI (i_3 + 1)), (4, vI 0), (3, vI z_49), (2, vI ((M 7 3) - (M 7 2))), (0, aR Γ 7), (1, sR Γ w)]) hx 2 (dq tX7_wordIn 58 rfl) rfl (by decide) rfl rfl ?_
                refine g_goto (n := 18) hx (dq tX7_wordIn 59 rfl) (by decide) ?_
                exact ih_7 _ (by omega) (i_3 + 1) 0 z_49 (by omega) (by omega) (by omega) (by omega) (by omega) (by omega) rfl
              · refine g_iload_n (n := 58) hx 2 (dq tX7_wordIn 30 rfl) rfl rfl ?_
                exact g_iret hx hr (dq tX7_wordIn 31 rfl) ⟨by omega, by omega⟩ rfl
  exact L_6 _ 0 0 0 (by omega) (by omega) (by omega) (by omega) (by omega) (by omega) rfl

abbrev qctX7_takesWord (M : zM) (w : Nat) (z : Int) (M' : zM) : Prop := (∀ u_ v_, (u_ ≠ 7 ∨ v_ ≠ 2) ∧ (u_ ≠ 7 ∨ v_ ≠ 3) ∧ (u_ ≠ 7 ∨ v_ ≠ 4) → M' u_ v_ = M u_ v_) ∧ (z = 0 ∨ (z = 1))
set_option maxHeartbeats 4000000 in
set_option maxRecDepth 100000 in
theorem ctX7_takesWord (Γ : Gam) (M : zM) (w : Nat) (qw : String × Nat × String × Nat) (hw : sN[w]? = some qw) (hwn : qw.2.2.2 ≤ 100)  : CtI Γ yX7_takesWord cX7_takesWord 2 (some .boolean) 5 110 [aR Γ 7, sR Γ w] M (qctX7_takesWord M w) := by
  refine met_i (by decide) (Nat.le_of_ble_eq_true rfl) (fun x hx hr => ?_)
  show G Γ x 2 (QI Γ x (qctX7_takesWord M w)) M 0 [(0, aR Γ 7), (1, sR Γ w)] []
  refine g_aload_n (n := 1) hx 0 (dq tX7_takesWord 0 rfl) rfl rfl ?_
  refine g_aload_nS (n := 2) hx 1 (dq tX7_takesWord 1 rfl) rfl rfl ?_
  refine g_callVi (n := 5) (As := [sR Γ w]) (rest := []) hx (ctX7_wordIn Γ M w _ hw hwn) mlX7_44 (obX7 (by decide)) (dq tX7_takesWord 2 rfl) rfl (Nat.le_of_ble_eq_true rfl) (Nat.le_of_ble_eq_true rfl) (Nat.le_of_ble_eq_true rfl) rfl (fun z_1 M_2 h_3 p_4 => ?_)
  obtain rfl := p_4
  refine g_if_eq (n := 8) (t := 10) hx (dq tX7_takesWord 3 rfl) (by decide) rfl h_3 (fun c_6 => ?_) (fun c_6 => ?_)
  · refine g_aload_n (n := 11) hx 0 (dq tX7_takesWord 6 rfl) rfl rfl ?_
    refine g_callVv (n := 14) (As := []) (rest := []) hx (ctX7_pass Γ M ) mlX7_25 (obX7 (by decide)) (dq tX7_takesWord 7 rfl) rfl (Nat.le_of_ble_eq_true rfl) (Nat.le_of_ble_eq_true rfl) (Nat.le_of_ble_eq_true rfl) rfl (fun M_8 p_10 => ?_)
    have f_11 := p_10
    refine g_iconst (n := 15) hx (dq tX7_takesWord 8 rfl) rfl ?_
    exact g_zret hx hr (dq tX7_takesWord 9 rfl) (by omega) ⟨(fun u_ v_ huv_ => (f_11 u_ v_ (by omega))), (by omega)⟩
  · refine g_iconst (n := 9) hx (dq tX7_takesWord 4 rfl) rfl ?_
    exact g_zret hx hr (dq tX7_takesWord 5 rfl) (by omega) ⟨(fun _ _ _ => rfl), (by omega)⟩
