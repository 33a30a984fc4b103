set_option maxHeartbeats 4000000 in
set_option maxRecDepth 100000 in
theorem ctJ0_coder_7d493 (Γ : Gam) (M : zM) (i : Nat) (r : String × Nat × String × Nat) (hi : sN[i]? = some r) : CtI Γ yJ0_coder_7d493 cJ0_coder_7d493 1 (some .byte) 0 0 [sR Γ i] M (fun z M' => M = M' ∧ z = 0) := by
  refine met_i (by decide) (Nat.le_of_ble_eq_true rfl) (fun x hx hr => ?_)
  show G Γ x 1 (QI Γ x (fun z M' => M = M' ∧ z = 0)) M 0 [(0, sR Γ i)] []
  refine g_compact (n := 3) hx wd_504 (dq tJ0_coder_7d493 0 rfl) rfl ?_
  refine g_if_eq (n := 6) (t := 13) hx (dq tJ0_coder_7d493 1 rfl) (by decide) rfl ⟨by decide, by decide⟩ (fun h => absurd h (by decide)) (fun _ => ?_)
  refine g_aload_nS (n := 7) hx 0 (dq tJ0_coder_7d493 2 rfl) rfl rfl ?_
  refine g_coder (n := 10) hx hi wd_1975 (dq tJ0_coder_7d493 3 rfl) rfl ?_
  refine g_goto (n := 14) hx (dq tJ0_coder_7d493 4 rfl) (by decide) ?_
  exact g_bret hx hr (dq tJ0_coder_7d493 6 rfl) ⟨rfl, rfl⟩

set_option maxHeartbeats 4000000 in
set_option maxRecDepth 100000 in
theorem ctJ0_length_8abf5 (Γ : Gam) (M : zM) (i : Nat) (r : String × Nat × String × Nat) (hi : sN[i]? = some r) : CtI Γ yJ0_length_8abf5 cJ0_length_8abf5 1 (some .int) 1 20 [sR Γ i] M (fun z M' => M = M' ∧ z = r.2.2.2) := by
  refine met_i (by decide) (Nat.le_of_ble_eq_true rfl) (fun x hx hr => ?_)
  have hle := sNle i r hi
  show G Γ x 1 (QI Γ x (fun z M' => M = M' ∧ z = r.2.2.2)) M 0 [(0, sR Γ i)] []
  refine g_aload_nS (n := 1) hx 0 (dq tJ0_length_8abf5 0 rfl) rfl rfl ?_
  refine g_value (n := 4) hx hi wd_1974 (dq tJ0_length_8abf5 1 rfl) rfl ?_
  refine g_tlen (n := 5) hx hi (dq tJ0_length_8abf5 2 rfl) rfl ?_
  refine g_aload_nS (n := 6) hx 0 (dq tJ0_length_8abf5 3 rfl) rfl rfl ?_
  refine g_callSt (n := 9) (As := []) (rest := [vI r.2.2.2]) hx (ctJ0_coder_7d493 Γ M i r hi) mlJ0_335 rfl hi (dq tJ0_length_8abf5 4 rfl) rfl (Nat.le_of_ble_eq_true rfl) (Nat.le_of_ble_eq_true rfl) (Nat.le_of_ble_eq_true rfl) rfl (fun z M1 hz hp => ?_)
  obtain ⟨rfl, rfl⟩ := hp
  refine g_ishr0 (n := 10) hx (dq tJ0_length_8abf5 5 rfl) rfl ?_
  exact g_iret hx hr (dq tJ0_length_8abf5 6 rfl) ⟨by omega, by omega⟩ ⟨rfl, rfl⟩

set_option maxHeartbeats 4000000 in
set_option maxRecDepth 100000 in
theorem ctJ0_isLatin1_aae02 (Γ : Gam) (M : zM) (i : Nat) (r : String × Nat × String × Nat) (hi : sN[i]? = some r) : CtI Γ yJ0_isLatin1_aae02 cJ0_isLatin1_aae02 1 (some .boolean) 0 0 [sR Γ i] M (fun z M' => M = M' ∧ z = 1) := by
  refine met_i (by decide) (Nat.le_of_ble_eq_true rfl) (fun x hx hr => ?_)
  show G Γ x 1 (QI Γ x (fun z M' => M = M' ∧ z = 1)) M 0 [(0, sR Γ i)] []
  refine g_compact (n := 3) hx wd_504 (dq tJ0_isLatin1_aae02 0 rfl) rfl ?_
  refine g_if_eq (n := 6) (t := 17) hx (dq tJ0_isLatin1_aae02 1 rfl) (by decide) rfl ⟨by decide, by decide⟩ (fun h => absurd h (by decide)) (fun _ => ?_)
  refine g_aload_nS (n := 7) hx 0 (dq tJ0_isLatin1_aae02 2 rfl) rfl rfl ?_
  refine g_coder (n := 10) hx hi wd_1975 (dq tJ0_isLatin1_aae02 3 rfl) rfl ?_
  refine g_if_ne (n := 13) (t := 17) hx (dq tJ0_isLatin1_aae02 4 rfl) (by decide) rfl ⟨by decide, by decide⟩ (fun h => absurd rfl h) (fun _ => ?_)
  refine g_iconst (n := 14) hx (dq tJ0_isLatin1_aae02 5 rfl) rfl ?_
  refine g_goto (n := 18) hx (dq tJ0_isLatin1_aae02 6 rfl) (by decide) ?_
  exact g_zret hx hr (dq tJ0_isLatin1_aae02 8 rfl) (Or.inr rfl) ⟨rfl, rfl⟩

set_option maxHeartbeats 4000000 in
set_option maxRecDepth 100000 in
theorem ctJ3_checkIndex_8e157 (Γ : Gam) (M : zM) (k n : Int) (v : Value) (hv : v = .null ∨ ∃ t, v = .ref t) (h0 : 0 ≤ k) (h1 : k < n) (h2 : n ≤ 2147483647) : CtI Γ yJ3_checkIndex_8e157 cJ3_checkIndex_8e157 3 (some .int) 0 0 [vI k, vI n, v] M (fun z M' => M = M') := by
  refine met_i (by decide) ((by rcases hv with rfl | ⟨t, rfl⟩ <;> exact Nat.le_of_ble_eq_true rfl)) (fun x hx hr => ?_)
  show G Γ x 3 (QI Γ x (fun z M' => M = M')) M 0 (lv_args 0 [vI k, vI n, v]) []
  refine g_iload_n (n := 1) hx 0 (dq tJ3_checkIndex_8e157 0 rfl) rfl rfl ?_
  refine g_if_lt (n := 4) (t := 9) hx (dq tJ3_checkIndex_8e157 1 rfl) (by decide) rfl ⟨by omega, by omega⟩ (fun h => absurd h (by omega)) (fun _ => ?_)
  refine g_iload_n (n := 5) hx 0 (dq tJ3_checkIndex_8e157 2 rfl) rfl rfl ?_
  refine g_iload_n (n := 6) hx 1 (dq tJ3_checkIndex_8e157 3 rfl) rfl rfl ?_
  refine g_icmp_lt (n := 9) (t := 16) hx (dq tJ3_checkIndex_8e157 4 rfl) (by decide) rfl ⟨by omega, by omega⟩ ⟨by omega, by omega⟩ (fun _ => ?_) (fun h => absurd h1 h)
  refine g_iload_n (n := 17) hx 0 (dq tJ3_checkIndex_8e157 10 rfl) rfl rfl ?_
  exact g_iret hx hr (dq tJ3_checkIndex_8e157 11 rfl) ⟨by omega, by omega⟩ rfl

set_option maxHeartbeats 4000000 in
set_option maxRecDepth 100000 in
theorem ctJ0_checkIndex_df160 (Γ : Gam) (M : zM) (k n : Int) (h0 : 0 ≤ k) (h1 : k < n) (h2 : n ≤ 2147483647) : CtV Γ yJ0_checkIndex_df160 cJ0_checkIndex_df160 2 none 1 22 [vI k, vI n] M (fun M' => M = M') := by
  refine met_v (by decide) (Nat.le_of_ble_eq_true rfl) (fun x hx hr => ?_)
  show G Γ x 2 (QV Γ x (fun M' => M = M')) M 0 [(0, vI k), (1, vI n)] []
  refine g_iload_n (n := 1) hx 0 (dq tJ0_checkIndex_df160 0 rfl) rfl rfl ?_
  refine g_iload_n (n := 2) hx 1 (dq tJ0_checkIndex_df160 1 rfl) rfl rfl ?_
  refine g_former (n := 5) hx wd_520 (dq tJ0_checkIndex_df160 2 rfl) rfl ?_ (fun t => ?_)
  · refine g_callSi (n := 8) (As := [vI k, vI n, .null]) (rest := []) hx (ctJ3_checkIndex_8e157 Γ M k n .null (Or.inl rfl) h0 h1 h2) mlJ0_1059 (dq tJ0_checkIndex_df160 3 rfl) rfl (Nat.le_of_ble_eq_true rfl) (Nat.le_of_ble_eq_true rfl) (Nat.le_of_ble_eq_true rfl) rfl (fun z M1 hz hp => ?_)
    obtain rfl := hp
    refine g_pop (n := 9) hx (dq tJ0_checkIndex_df160 4 rfl) rfl rfl ?_
    exact g_vret hx hr (dq tJ0_checkIndex_df160 5 rfl) rfl
  · refine g_callSi (n := 8) (As := [vI k, vI n, .ref t]) (rest := []) hx (ctJ3_checkIndex_8e157 Γ M k n (.ref t) (Or.inr ⟨t, rfl⟩) h0 h1 h2) mlJ0_1059 (dq tJ0_checkIndex_df160 3 rfl) rfl (Nat.le_of_ble_eq_true rfl) (Nat.le_of_ble_eq_true rfl) (Nat.le_of_ble_eq_true rfl) rfl (fun z M1 hz hp => ?_)
    obtain rfl := hp
    refine g_pop (n := 9) hx (dq tJ0_checkIndex_df160 4 rfl) rfl rfl ?_
    exact g_vret hx hr (dq tJ0_checkIndex_df160 5 rfl) rfl

set_option maxHeartbeats 4000000 in
set_option maxRecDepth 100000 in
theorem ctJ1_charAt_3b067 (Γ : Gam) (M : zM) (i : Nat) (r : String × Nat × String × Nat) (hi : sN[i]? = some r) (k : Int) (h0 : 0 ≤ k) (h1 : k < r.2.2.2) : CtI Γ yJ1_charAt_3b067 cJ1_charAt_3b067 2 (some .char) 2 43 [.ref (gs Γ (2 * i + 1)), vI k] M (fun z M' => M = M' ∧ 0 ≤ z ∧ z ≤ 255) := by
  refine met_i (by decide) (Nat.le_of_ble_eq_true rfl) (fun x hx hr => ?_)
  have hle := sNle i r hi
  show G Γ x 2 (QI Γ x (fun z M' => M = M' ∧ 0 ≤ z ∧ z ≤ 255)) M 0 [(0, .ref (gs Γ (2 * i + 1))), (1, vI k)] []
  refine g_iload_n (n := 1) hx 1 (dq tJ1_charAt_3b067 0 rfl) rfl rfl ?_
  refine g_aload_nR (n := 2) hx 0 (dq tJ1_charAt_3b067 1 rfl) rfl rfl ?_
  refine g_tlen (n := 3) hx hi (dq tJ1_charAt_3b067 2 rfl) rfl ?_
  refine g_callSv (n := 6) (As := [vI k, vI r.2.2.2]) (rest := []) hx (ctJ0_checkIndex_df160 Γ M k r.2.2.2 h0 h1 (by omega)) mlJ1_9 (dq tJ1_charAt_3b067 3 rfl) rfl (Nat.le_of_ble_eq_true rfl) (Nat.le_of_ble_eq_true rfl) (Nat.le_of_ble_eq_true rfl) rfl (fun M1 hp => ?_)
  obtain rfl := hp
  refine g_aload_nR (n := 7) hx 0 (dq tJ1_charAt_3b067 4 rfl) rfl rfl ?_
  refine g_iload_n (n := 8) hx 1 (dq tJ1_charAt_3b067 5 rfl) rfl rfl ?_
  refine g_tald (n := 9) hx hi (dq tJ1_charAt_3b067 6 rfl) rfl h0 h1 (by omega) (fun z hz => ?_)
  refine g_sipush (n := 12) hx (dq tJ1_charAt_3b067 7 rfl) rfl (by decide) ?_
  refine g_iand (n := 13) hx (dq tJ1_charAt_3b067 8 rfl) rfl (fun z2 hz2 q1 q2 => ?_)
  have q3 := q1 (by decide) (by decide)
  refine g_i2cI (n := 14) hx (dq tJ1_charAt_3b067 9 rfl) rfl (by omega) (by omega) ?_
  exact g_cret hx hr (dq tJ1_charAt_3b067 10 rfl) (by omega) (by omega) ⟨rfl, by omega, by omega⟩

set_option maxHeartbeats 4000000 in
set_option maxRecDepth 100000 in
theorem ctJ0_charAt_5068e (Γ : Gam) (M : zM) (i : Nat) (r : String × Nat × String × Nat) (hi : sN[i]? = some r) (k : Int) (h0 : 0 ≤ k) (h1 : k < r.2.2.2) : CtI Γ yJ0_charAt_5068e cJ0_charAt_5068e 2 (some .char) 3 64 [sR Γ i, vI k] M (fun z M' => M = M' ∧ 0 ≤ z ∧ z ≤ 255) := by
  refine met_i (by decide) (Nat.le_of_ble_eq_true rfl) (fun x hx hr => ?_)
  have hle := sNle i r hi
  show G Γ x 2 (QI Γ x (fun z M' => M = M' ∧ 0 ≤ z ∧ z ≤ 255)) M 0 [(0, sR Γ i), (1, vI k)] []
  refine g_aload_nS (n := 1) hx 0 (dq tJ0_charAt_5068e 0 rfl) rfl rfl ?_
  refine g_callSt (n := 4) (As := []) (rest := []) hx (ctJ0_isLatin1_aae02 Γ M i r hi) mlJ0_492 rfl hi (dq tJ0_charAt_5068e 1 rfl) rfl (Nat.le_of_ble_eq_true rfl) (Nat.le_of_ble_eq_true rfl) (Nat.le_of_ble_eq_true rfl) rfl (fun z M1 hz hp => ?_)
  obtain ⟨rfl, rfl⟩ := hp
  refine g_if_eq (n := 7) (t := 16) hx (dq tJ0_charAt_5068e 2 rfl) (by decide) rfl ⟨by decide, by decide⟩ (fun h => absurd h (by decide)) (fun _ => ?_)
  refine g_aload_nS (n := 8) hx 0 (dq tJ0_charAt_5068e 3 rfl) rfl rfl ?_
  refine g_value (n := 11) hx hi wd_1974 (dq tJ0_charAt_5068e 4 rfl) rfl ?_
  refine g_iload_n (n := 12) hx 1 (dq tJ0_charAt_5068e 5 rfl) rfl rfl ?_
  refine g_callSi (n := 15) (As := [.ref (gs Γ (2 * i + 1)), vI k]) (rest := []) hx (ctJ1_charAt_3b067 Γ M i r hi k h0 h1) mlJ0_495 (dq tJ0_charAt_5068e 6 rfl) rfl (Nat.le_of_ble_eq_true rfl) (Nat.le_of_ble_eq_true rfl) (Nat.le_of_ble_eq_true rfl) rfl (fun z M1 hz hp => ?_)
  obtain ⟨rfl, q1, q2⟩ := hp
  exact g_cret hx hr (dq tJ0_charAt_5068e 7 rfl) (by omega) (by omega) ⟨rfl, q1, q2⟩

abbrev qctX7_isLong (M : zM)  (z : Int) (M' : zM) : Prop := M = M' ∧ (z = 0 ∨ (z = 1))
set_option maxHeartbeats 4000000 in
set_option maxRecDepth 100000 in
theorem ctX7_isLong (Γ : Gam) (M : zM)   : CtI Γ yX7_isLong cX7_isLong 1 (some .boolean) 0 0 [aR Γ 7] M (qctX7_isLong M) := by
  refine met_i (by decide) (Nat.le_of_ble_eq_true rfl) (fun x hx hr => ?_)
  show G Γ x 1 (QI Γ x (qctX7_isLong M)) M 0 [(0, aR Γ 7)] []
  refine g_aload_n (n := 1) hx 0 (dq tX7_isLong 0 rfl) rfl rfl ?_
  refine g_getI (n := 4) hx glX7_22 (sX7_3 (by decide)) (dq tX7_isLong 1 rfl) rfl (fun h_1l h_1u => ?_)
  refine g_aload_n (n := 5) hx 0 (dq tX7_isLong 2 rfl) rfl rfl ?_
  refine g_getI (n := 8) hx glX7_28 (sX7_2 (by decide)) (dq tX7_isLong 3 rfl) rfl (fun h_2l h_2u => ?_)
  refine g_isub (n := 9) hx (dq tX7_isLong 4 rfl) rfl ?_
  refine g_iconst (n := 10) hx (dq tX7_isLong 5 rfl) rfl ?_
  refine g_icmp_le (n := 13) (t := 17) hx (dq tX7_isLong 6 rfl) (by decide) rfl ⟨by omega, by omega⟩ ⟨by decide, by decide⟩ (fun c_3 => ?_) (fun c_3 => ?_)
  · refine g_iconst (n := 18) hx (dq tX7_isLong 9 rfl) rfl ?_
    exact g_zret hx hr (dq tX7_isLong 10 rfl) (by omega) ⟨rfl, (by omega)⟩
  · refine g_iconst (n := 14) hx (dq tX7_isLong 7 rfl) rfl ?_
    refine g_goto (n := 18) hx (dq tX7_isLong 8 rfl) (by decide) ?_
    exact g_zret hx hr (dq tX7_isLong 10 rfl) (by omega) ⟨rfl, (by omega)⟩
