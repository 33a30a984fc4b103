abbrev qctX0_owe (M : zM) (k : Nat) (village : Int) (owner : Int) (price : Int) (M' : zM) : Prop := (∀ u_ v_, u_ ≠ k + 2 → M' u_ v_ = M u_ v_)
set_option maxHeartbeats 4000000 in
set_option maxRecDepth 100000 in
theorem ctX0_owe (Γ : Gam) (M : zM) (k : Nat) (hk : isX0 k) (village : Int) (hvillagel : 0 ≤ village) (hvillageu : village ≤ 5) (owner : Int) (hownerl : (-1) ≤ owner) (howneru : owner ≤ 5) (price : Int) (hpricel : (-2147483648) ≤ price) (hpriceu : price ≤ 2147483647)  : CtV Γ yX0_owe cX0_owe 4 none 0 0 [aR Γ k, vI village, vI owner, vI price] M (qctX0_owe M k village owner price) := by
  refine met_v (by decide) (Nat.le_of_ble_eq_true rfl) (fun x hx hr => ?_)
  show G Γ x 4 (QV Γ x (qctX0_owe M k village owner price)) M 0 [(0, aR Γ k), (1, vI village), (2, vI owner), (3, vI price)] []
  refine g_iload_n (n := 1) hx 2 (dq tX0_owe 0 rfl) rfl rfl ?_
  refine g_iconst (n := 2) hx (dq tX0_owe 1 rfl) rfl ?_
  refine g_icmp_eq (n := 5) (t := 25) hx (dq tX0_owe 2 rfl) (by decide) rfl (zrI hownerl howneru (by decide) (by decide)) ⟨by decide, by decide⟩ (fun c_1 => ?_) (fun c_1 => ?_)
  · exact g_vret hx hr (dq tX0_owe 18 rfl) (fun _ _ _ => rfl)
  · refine g_iload_n (n := 6) hx 2 (dq tX0_owe 3 rfl) rfl rfl ?_
    refine g_iload_n (n := 7) hx 1 (dq tX0_owe 4 rfl) rfl rfl ?_
    refine g_icmp_eq (n := 10) (t := 25) hx (dq tX0_owe 5 rfl) (by decide) rfl (zrI hownerl howneru (by decide) (by decide)) (zrI hvillagel hvillageu (by decide) (by decide)) (fun c_2 => ?_) (fun c_2 => ?_)
    · exact g_vret hx hr (dq tX0_owe 18 rfl) (fun _ _ _ => rfl)
    · refine g_aload_n (n := 11) hx 0 (dq tX0_owe 6 rfl) rfl rfl ?_
      refine g_getR (n := 14) hx glX0_15 (sX0_3 hk) (dq tX0_owe 7 rfl) rfl ?_
      refine g_iload_n (n := 15) hx 1 (dq tX0_owe 8 rfl) rfl rfl ?_
      refine g_bipush (n := 17) hx (dq tX0_owe 9 rfl) rfl (by decide) ?_
      refine g_imul (n := 18) hx (dq tX0_owe 10 rfl) rfl ?_
      refine g_iload_n (n := 19) hx 2 (dq tX0_owe 11 rfl) rfl rfl ?_
      refine g_iadd (n := 20) hx (dq tX0_owe 12 rfl) rfl ?_
      refine g_dup2 (n := 21) hx (dq tX0_owe 13 rfl) rfl rfl rfl ?_
      refine g_iald (n := 22) (q := ((village * 6) + owner).toNat) hx (aX0_3 (b := k) hk) (dq tX0_owe 14 rfl) rfl (by omega) (by omega) (by omega) rfl (fun h_3l h_3u => ?_)
      refine g_iload_n (n := 23) hx 3 (dq tX0_owe 15 rfl) rfl rfl ?_
      refine g_iadd (n := 24) hx (dq tX0_owe 16 rfl) rfl ?_
      refine g_any (fun z_4 h_5 => ?_)
      refine g_iast (n := 25) (q := ((village * 6) + owner).toNat) hx (aX0_3 (b := k) hk) (dq tX0_owe 17 rfl) rfl (by omega) (by omega) (by omega) rfl (by omega) (by omega) (fun M_6 m_7e m_7 => ?_)
      exact g_vret hx hr (dq tX0_owe 18 rfl) (fun u_ v_ huv_ => (m_7 u_ v_ (by omega)))

abbrev qctX0_net (M : zM) (k : Nat) (village : Int) (z : Int) (M' : zM) : Prop := M = M'
set_option maxHeartbeats 4000000 in
set_option maxRecDepth 100000 in
theorem ctX0_net (Γ : Gam) (M : zM) (k : Nat) (hk : isX0 k) (village : Int) (hvillagel : 0 ≤ village) (hvillageu : village ≤ 5)  : CtI Γ yX0_net cX0_net 4 (some .int) 0 0 [aR Γ k, vI village] M (qctX0_net M k village) := by
  refine met_i (by decide) (Nat.le_of_ble_eq_true rfl) (fun x hx hr => ?_)
  show G Γ x 4 (QI Γ x (qctX0_net M k village)) M 0 [(0, aR Γ k), (1, vI village)] []
  refine g_iconst (n := 1) hx (dq tX0_net 0 rfl) rfl ?_
  refine g_istore_n (n := 2) (lv' := [(2, vI 0), (0, aR Γ k), (1, vI village)]) hx (dq tX0_net 1 rfl) (by decide) rfl rfl ?_
  refine g_iconst (n := 3) hx (dq tX0_net 2 rfl) rfl ?_
  refine g_istore_n (n := 4) (lv' := [(3, vI 0), (2, vI 0), (0, aR Γ k), (1, vI village)]) hx (dq tX0_net 3 rfl) (by decide) rfl rfl ?_
  have L_3 : ∀ (n_ : Nat) (i_1 : Int) (i_2 : Int), (0 ≤ i_1) → (i_1 ≤ 6) → ((-2147483648) ≤ i_2) → (i_2 ≤ 2147483647) → ((6 - i_1).toNat = n_) → G Γ x 4 (QI Γ x (qctX0_net M k village)) M 4 [(3, vI i_1), (2, vI i_2), (0, aR Γ k), (1, vI village)] [] := by
    intro n_
    induction n_ using Nat.strongRecOn with
    | _ n_ ih_4 =>
      intro i_1 i_2 h_7 h_8 h_9 h_10 hm_6
      refine g_iload_n (n := 5) hx 0 (dq tX0_net 4 rfl) rfl rfl ?_
      refine g_bipush (n := 7) hx (dq tX0_net 5 rfl) rfl (by decide) ?_
      refine g_icmp_ge (n := 10) (t := 42) hx (dq tX0_net 6 rfl) (by decide) rfl ⟨by omega, by omega⟩ ⟨by decide, by decide⟩ (fun c_11 => ?_) (fun c_11 => ?_)
      · refine g_iload_n (n := 43) hx 1 (dq tX0_net 29 rfl) rfl rfl ?_
        exact g_iret hx hr (dq tX0_net 30 rfl) ⟨by omega, by omega⟩ rfl
      · refine g_iload_n (n := 11) hx 1 (dq tX0_net 7 rfl) rfl rfl ?_
        refine g_aload_n (n := 12) hx 2 (dq tX0_net 8 rfl) rfl rfl ?_
        refine g_getR (n := 15) hx glX0_15 (sX0_3 hk) (dq tX0_net 9 rfl) rfl ?_
        refine g_iload_n (n := 16) hx 0 (dq tX0_net 10 rfl) rfl rfl ?_
        refine g_bipush (n := 18) hx (dq tX0_net 11 rfl) rfl (by decide) ?_
        refine g_imul (n := 19) hx (dq tX0_net 12 rfl) rfl ?_
        refine g_iload_n (n := 20) hx 3 (dq tX0_net 13 rfl) rfl rfl ?_
        refine g_iadd (n := 21) hx (dq tX0_net 14 rfl) rfl ?_
        refine g_iald (n := 22) (q := ((i_1 * 6) + village).toNat) hx (aX0_3 (b := k) hk) (dq tX0_net 15 rfl) rfl (by omega) (by omega) (by omega) rfl (fun h_12l h_12u => ?_)
        refine g_aload_n (n := 23) hx 2 (dq tX0_net 16 rfl) rfl rfl ?_
        refine g_getR (n := 26) hx glX0_15 (sX0_3 hk) (dq tX0_net 17 rfl) rfl ?_
        refine g_iload_n (n := 27) hx 3 (dq tX0_net 18 rfl) rfl rfl ?_
        refine g_bipush (n := 29) hx (dq tX0_net 19 rfl) rfl (by decide) ?_
        refine g_imul (n := 30) hx (dq tX0_net 20 rfl) rfl ?_
        refine g_iload_n (n := 31) hx 0 (dq tX0_net 21 rfl) rfl rfl ?_
        refine g_iadd (n := 32) hx (dq tX0_net 22 rfl) rfl ?_
        refine g_iald (n := 33) (q := ((village * 6) + i_1).toNat) hx (aX0_3 (b := k) hk) (dq tX0_net 23 rfl) rfl (by omega) (by omega) (by omega) rfl (fun h_13l h_13u => ?_)
        refine g_isub (n := 34) hx (dq tX0_net 24 rfl) rfl ?_
        refine g_iadd (n := 35) hx (dq tX0_net 25 rfl) rfl ?_
        refine g_any (fun z_14 h_15 => ?_)
        refine g_istore_n (n := 36) (lv' := [(2, vI z_14), (3, vI i_1), (0, aR Γ k), (1, vI village)]) hx (dq tX0_net 26 rfl) (by decide) rfl rfl ?_
        refine g_iinc (n := 39) (lv' := [(3, vI (i_1 + 1)), (2, vI z_14), (0, aR Γ k), (1, vI village)]) hx 1 (dq tX0_net 27 rfl) rfl (by decide) rfl rfl ?_
        refine g_goto (n := 4) hx (dq tX0_net 28 rfl) (by decide) ?_
        exact ih_4 _ (by omega) (i_1 + 1) z_14 (by omega) (by omega) (by omega) (by omega) rfl
  exact L_3 _ 0 0 (by omega) (by omega) (by omega) (by omega) rfl

abbrev qctX0_writeOff (M : zM) (k : Nat) (most : Int) (z : Int) (M' : zM) : Prop := (∀ u_ v_, u_ ≠ k + 2 → M' u_ v_ = M u_ v_)
set_option maxHeartbeats 4000000 in
set_option maxRecDepth 100000 in
theorem ctX0_writeOff (Γ : Gam) (M : zM) (k : Nat) (hk : isX0 k) (most : Int) (hmostl : (-2147483648) ≤ most) (hmostu : most ≤ 2147483647)  : CtI Γ yX0_writeOff cX0_writeOff 4 (some .int) 0 0 [aR Γ k, vI most] M (qctX0_writeOff M k most) := by
  refine met_i (by decide) (Nat.le_of_ble_eq_true rfl) (fun x hx hr => ?_)
  show G Γ x 4 (QI Γ x (qctX0_writeOff M k most)) M 0 [(0, aR Γ k), (1, vI most)] []
  refine g_iconst (n := 1) hx (dq tX0_writeOff 0 rfl) rfl ?_
  refine g_istore_n (n := 2) (lv' := [(2, vI 0), (0, aR Γ k), (1, vI most)]) hx (dq tX0_writeOff 1 rfl) (by decide) rfl rfl ?_
  refine g_iconst (n := 3) hx (dq tX0_writeOff 2 rfl) rfl ?_
  refine g_istore_n (n := 4) (lv' := [(3, vI 0), (2, vI 0), (0, aR Γ k), (1, vI most)]) hx (dq tX0_writeOff 3 rfl) (by decide) rfl rfl ?_
  have L_4 : ∀ (n_ : Nat) (i_1 : Int) (i_2 : Int) (M_3 : zM), (0 ≤ i_1) → (i_1 ≤ 36) → ((-2147483648) ≤ i_2) → (i_2 ≤ 2147483647) → (∀ u_ v_, u_ ≠ k + 2 → M_3 u_ v_ = M u_ v_) → ((36 - i_1).toNat = n_) → G Γ x 4 (QI Γ x (qctX0_writeOff M k most)) M_3 4 [(3, vI i_1), (2, vI i_2), (0, aR Γ k), (1, vI most)] [] := by
    intro n_
    induction n_ using Nat.strongRecOn with
    | _ n_ ih_5 =>
      intro i_1 i_2 M_3 h_8 h_9 h_10 h_11 f_6 hm_7
      refine g_iload_n (n := 5) hx 0 (dq tX0_writeOff 4 rfl) rfl rfl ?_
      refine g_aload_n (n := 6) hx 2 (dq tX0_writeOff 5 rfl) rfl rfl ?_
      refine g_getR (n := 9) hx glX0_15 (sX0_3 hk) (dq tX0_writeOff 6 rfl) rfl ?_
      refine g_alen (n := 10) hx (akI (aX0_3 (b := k) hk)) (dq tX0_writeOff 7 rfl) rfl ?_
      refine g_icmp_ge (n := 13) (t := 45) hx (dq tX0_writeOff 8 rfl) (by decide) rfl ⟨by omega, by omega⟩ ⟨by decide, by decide⟩ (fun c_12 => ?_) (fun c_12 => ?_)
      · refine g_iload_n (n := 46) hx 1 (dq tX0_writeOff 29 rfl) rfl rfl ?_
        exact g_iret hx hr (dq tX0_writeOff 30 rfl) ⟨by omega, by omega⟩ (fun u_ v_ huv_ => (f_6 u_ v_ (by omega)))
      · refine g_aload_n (n := 14) hx 2 (dq tX0_writeOff 9 rfl) rfl rfl ?_
        refine g_getR (n := 17) hx glX0_15 (sX0_3 hk) (dq tX0_writeOff 10 rfl) rfl ?_
        refine g_iload_n (n := 18) hx 0 (dq tX0_writeOff 11 rfl) rfl rfl ?_
        refine g_iald (n := 19) (q := i_1.toNat) hx (aX0_3 (b := k) hk) (dq tX0_writeOff 12 rfl) rfl (by omega) (by omega) (by omega) rfl (fun h_13l h_13u => ?_)
        refine g_iload_n (n := 20) hx 3 (dq tX0_writeOff 13 rfl) rfl rfl ?_
        refine g_icmp_gt (n := 23) (t := 39) hx (dq tX0_writeOff 14 rfl) (by decide) rfl (zrI h_13l h_13u (by decide) (by decide)) (zrI hmostl hmostu (by decide) (by decide)) (fun c_14 => ?_) (fun c_14 => ?_)
        · refine g_iinc (n := 42) (lv' := [(3, vI (i_1 + 1)), (2, vI i_2), (0, aR Γ k), (1, vI most)]) hx 0 (dq tX0_writeOff 27 rfl) rfl (by decide) rfl rfl ?_
          refine g_goto (n := 4) hx (dq tX0_writeOff 28 rfl) (by decide) ?_
          exact ih_5 _ (by omega) (i_1 + 1) i_2 M_3 (by omega) (by omega) (by omega) (by omega) (fun u_ v_ huv_ => (f_6 u_ v_ (by omega))) rfl
        · refine g_iload_n (n := 24) hx 1 (dq tX0_writeOff 15 rfl) rfl rfl ?_
          refine g_aload_n (n := 25) hx 2 (dq tX0_writeOff 16 rfl) rfl rfl ?_
          refine g_getR (n := 28) hx glX0_15 (sX0_3 hk) (dq tX0_writeOff 17 rfl) rfl ?_
          refine g_iload_n (n := 29) hx 0 (dq tX0_writeOff 18 rfl) rfl rfl ?_
          refine g_iald (n := 30) (q := i_1.toNat) hx (aX0_3 (b := k) hk) (dq tX0_writeOff 19 rfl) rfl (by omega) (by omega) (by omega) rfl (fun h_15l h_15u => ?_)
          refine g_iadd (n := 31) hx (dq tX0_writeOff 20 rfl) rfl ?_
          refine g_any (fun z_16 h_17 => ?_)
          refine g_istore_n (n := 32) (lv' := [(2, vI z_16), (3, vI i_1), (0, aR Γ k), (1, vI most)]) hx (dq tX0_writeOff 21 rfl) (by decide) rfl rfl ?_
          refine g_aload_n (n := 33) hx 2 (dq tX0_writeOff 22 rfl) rfl rfl ?_
          refine g_getR (n := 36) hx glX0_15 (sX0_3 hk) (dq tX0_writeOff 23 rfl) rfl ?_
          refine g_iload_n (n := 37) hx 1 (dq tX0_writeOff 24 rfl) rfl rfl ?_
          refine g_iconst (n := 38) hx (dq tX0_writeOff 25 rfl) rfl ?_
          refine g_iast (n := 39) (q := i_1.toNat) hx (aX0_3 (b := k) hk) (dq tX0_writeOff 26 rfl) rfl (by omega) (by omega) (by omega) rfl (by omega) (by omega) (fun M_18 m_19e m_19 => ?_)
          refine g_iinc (n := 42) (lv' := [(3, vI (i_1 + 1)), (2, vI z_16), (0, aR Γ k), (1, vI most)]) hx 1 (dq tX0_writeOff 27 rfl) rfl (by decide) rfl rfl ?_
          refine g_goto (n := 4) hx (dq tX0_writeOff 28 rfl) (by decide) ?_
          exact ih_5 _ (by omega) (i_1 + 1) z_16 M_18 (by omega) (by omega) (by omega) (by omega) (fun u_ v_ huv_ => ((m_19 u_ v_ (by omega)).trans (f_6 u_ v_ (by omega)))) rfl
  exact L_4 _ 0 0 M (by omega) (by omega) (by omega) (by omega) (fun _ _ _ => rfl) rfl

abbrev qctX0_weddingsOf (M : zM) (k : Nat) (log : Int) (z : Int) (M' : zM) : Prop := M = M'
set_option maxHeartbeats 4000000 in
set_option maxRecDepth 100000 in
theorem ctX0_weddingsOf (Γ : Gam) (M : zM) (k : Nat) (hk : isX0 k) (log : Int) (hlogl : (-2147483648) ≤ log) (hlogu : log ≤ 2147483647)  : CtI Γ yX0_weddingsOf cX0_weddingsOf 4 (some .int) 0 0 [aR Γ k, vI log] M (qctX0_weddingsOf M k log) := by
  refine met_i (by decide) (Nat.le_of_ble_eq_true rfl) (fun x hx hr => ?_)
  show G Γ x 4 (QI Γ x (qctX0_weddingsOf M k log)) M 0 [(0, aR Γ k), (1, vI log)] []
  refine g_iconst (n := 1) hx (dq tX0_weddingsOf 0 rfl) rfl ?_
  refine g_istore_n (n := 2) (lv' := [(2, vI 0), (0, aR Γ k), (1, vI log)]) hx (dq tX0_weddingsOf 1 rfl) (by decide) rfl rfl ?_
  refine g_iconst (n := 3) hx (dq tX0_weddingsOf 2 rfl) rfl ?_
  refine g_istore_n (n := 4) (lv' := [(3, vI 0), (2, vI 0), (0, aR Γ k), (1, vI log)]) hx (dq tX0_weddingsOf 3 rfl) (by decide) rfl rfl ?_
  have L_3 : ∀ (n_ : Nat) (i_1 : Int) (i_2 : Int), (0 ≤ i_1) → (i_1 ≤ 20) → ((-2147483648) ≤ i_2) → (i_2 ≤ 2147483647) → ((20 - i_1).toNat = n_) → G Γ x 4 (QI Γ x (qctX0_weddingsOf M k log)) M 4 [(3, vI i_1), (2, vI i_2), (0, aR Γ k), (1, vI log)] [] := by
    intro n_
    induction n_ using Nat.strongRecOn with
    | _ n_ ih_4 =>
      intro i_1 i_2 h_7 h_8 h_9 h_10 hm_6
      refine g_iload_n (n := 5) hx 0 (dq tX0_weddingsOf 4 rfl) rfl rfl ?_
      refine g_aload_n (n := 6) hx 2 (dq tX0_weddingsOf 5 rfl) rfl rfl ?_
      refine g_getI (n := 9) hx glX0_58 (sX0_4 hk) (dq tX0_weddingsOf 6 rfl) rfl (fun h_11l h_11u => ?_)
      refine g_icmp_ge (n := 12) (t := 31) hx (dq tX0_weddingsOf 7 rfl) (by decide) rfl ⟨by omega, by omega⟩ (zrI h_11l h_11u (by decide) (by decide)) (fun c_12 => ?_) (fun c_12 => ?_)
      · refine g_iload_n (n := 32) hx 1 (dq tX0_weddingsOf 21 rfl) rfl rfl ?_
        exact g_iret hx hr (dq tX0_weddingsOf 22 rfl) ⟨by omega, by omega⟩ rfl
      · refine g_iload_n (n := 13) hx 1 (dq tX0_weddingsOf 8 rfl) rfl rfl ?_
        refine g_aload_n (n := 14) hx 2 (dq tX0_weddingsOf 9 rfl) rfl rfl ?_
        refine g_getR (n := 17) hx glX0_18 (sX0_5 hk) (dq tX0_weddingsOf 10 rfl) rfl ?_
        refine g_iload_n (n := 18) hx 0 (dq tX0_weddingsOf 11 rfl) rfl rfl ?_
        refine g_iald (n := 19) (q := i_1.toNat) hx (aX0_5 (b := k) hk) (dq tX0_weddingsOf 12 rfl) rfl (by omega) (by omega) (by omega) rfl (fun h_13l h_13u => ?_)
        refine g_iload_n (n := 20) hx 3 (dq tX0_weddingsOf 13 rfl) rfl rfl ?_
        refine g_ishr (n := 21) hx (dq tX0_weddingsOf 14 rfl) rfl (fun z_14 h_15 => ?_)
        refine g_iconst (n := 22) hx (dq tX0_weddingsOf 15 rfl) rfl ?_
        refine g_iand (n := 23) hx (dq tX0_weddingsOf 16 rfl) rfl (fun z_17 h_18 h_191 h_192 => ?_)
        obtain ⟨h_193, h_194⟩ := h_191 (by omega) (by omega)
        clear h_191 h_192
        refine g_iadd (n := 24) hx (dq tX0_weddingsOf 17 rfl) rfl ?_
        refine g_any (fun z_20 h_21 => ?_)
        refine g_istore_n (n := 25) (lv' := [(2, vI z_20), (3, vI i_1), (0, aR Γ k), (1, vI log)]) hx (dq tX0_weddingsOf 18 rfl) (by decide) rfl rfl ?_
        refine g_iinc (n := 28) (lv' := [(3, vI (i_1 + 1)), (2, vI z_20), (0, aR Γ k), (1, vI log)]) hx 1 (dq tX0_weddingsOf 19 rfl) rfl (by decide) rfl rfl ?_
        refine g_goto (n := 4) hx (dq tX0_weddingsOf 20 rfl) (by decide) ?_
        exact ih_4 _ (by omega) (i_1 + 1) z_20 (by omega) (by omega) (by omega) (by omega) rfl
  exact L_3 _ 0 0 (by omega) (by omega) (by omega) (by omega) rfl

abbrev qctX0_kinOfAll (M : zM) (k : Nat) (logs : Int) (z : Int) (M' : zM) : Prop := M = M'
set_option maxHeartbeats 4000000 in
set_option maxRecDepth 100000 in
theorem ctX0_kinOfAll (Γ : Gam) (M : zM) (k : Nat) (hk : isX0 k) (logs : Int) (hlogsl : (-2147483648) ≤ logs) (hlogsu : logs ≤ 2147483647)  : CtI Γ yX0_kinOfAll cX0_kinOfAll 4 (some .int) 0 0 [aR Γ k, vI logs] M (qctX0_kinOfAll M k logs) := by
  refine met_i (by decide) (Nat.le_of_ble_eq_true rfl) (fun x hx hr => ?_)
  show G Γ x 4 (QI Γ x (qctX0_kinOfAll M k logs)) M 0 [(0, aR Γ k), (1, vI logs)] []
  refine g_iload_n (n := 1) hx 1 (dq tX0_kinOfAll 0 rfl) rfl rfl ?_
  refine g_istore_n (n := 2) (lv' := [(2, vI logs), (0, aR Γ k), (1, vI logs)]) hx (dq tX0_kinOfAll 1 rfl) (by decide) rfl rfl ?_
  refine g_iconst (n := 3) hx (dq tX0_kinOfAll 2 rfl) rfl ?_
  refine g_istore_n (n := 4) (lv' := [(3, vI 0), (2, vI logs), (0, aR Γ k), (1, vI logs)]) hx (dq tX0_kinOfAll 3 rfl) (by decide) rfl rfl ?_
  have L_3 : ∀ (n_ : Nat) (i_1 : Int) (i_2 : Int), (0 ≤ i_1) → (i_1 ≤ 20) → ((-2147483648) ≤ i_2) → (i_2 ≤ 2147483647) → ((20 - i_1).toNat = n_) → G Γ x 4 (QI Γ x (qctX0_kinOfAll M k logs)) M 4 [(3, vI i_1), (2, vI i_2), (0, aR Γ k), (1, vI logs)] [] := by
    intro n_
    induction n_ using Nat.strongRecOn with
    | _ n_ ih_4 =>
      intro i_1 i_2 h_7 h_8 h_9 h_10 hm_6
      refine g_iload_n (n := 5) hx 0 (dq tX0_kinOfAll 4 rfl) rfl rfl ?_
      refine g_aload_n (n := 6) hx 2 (dq tX0_kinOfAll 5 rfl) rfl rfl ?_
      refine g_getI (n := 9) hx glX0_58 (sX0_4 hk) (dq tX0_kinOfAll 6 rfl) rfl (fun h_11l h_11u => ?_)
      refine g_icmp_ge (n := 12) (t := 38) hx (dq tX0_kinOfAll 7 rfl) (by decide) rfl ⟨by omega, by omega⟩ (zrI h_11l h_11u (by decide) (by decide)) (fun c_12 => ?_) (fun c_12 => ?_)
      · refine g_iload_n (n := 39) hx 1 (dq tX0_kinOfAll 24 rfl) rfl rfl ?_
        exact g_iret hx hr (dq tX0_kinOfAll 25 rfl) ⟨by omega, by omega⟩ rfl
      · refine g_aload_n (n := 13) hx 2 (dq tX0_kinOfAll 8 rfl) rfl rfl ?_
        refine g_getR (n := 16) hx glX0_18 (sX0_5 hk) (dq tX0_kinOfAll 9 rfl) rfl ?_
        refine g_iload_n (n := 17) hx 0 (dq tX0_kinOfAll 10 rfl) rfl rfl ?_
        refine g_iald (n := 18) (q := i_1.toNat) hx (aX0_5 (b := k) hk) (dq tX0_kinOfAll 11 rfl) rfl (by omega) (by omega) (by omega) rfl (fun h_13l h_13u => ?_)
        refine g_iload_n (n := 19) hx 3 (dq tX0_kinOfAll 12 rfl) rfl rfl ?_
        refine g_iand (n := 20) hx (dq tX0_kinOfAll 13 rfl) rfl (fun z_14 h_15 h_161 h_162 => ?_)
        clear h_161 h_162
        refine g_if_eq (n := 23) (t := 32) hx (dq tX0_kinOfAll 14 rfl) (by decide) rfl h_15 (fun c_17 => ?_) (fun c_17 => ?_)
        · refine g_iinc (n := 35) (lv' := [(3, vI (i_1 + 1)), (2, vI i_2), (0, aR Γ k), (1, vI logs)]) hx 0 (dq tX0_kinOfAll 22 rfl) rfl (by decide) rfl rfl ?_
          refine g_goto (n := 4) hx (dq tX0_kinOfAll 23 rfl) (by decide) ?_
          exact ih_4 _ (by omega) (i_1 + 1) i_2 (by omega) (by omega) (by omega) (by omega) rfl
        · refine g_iload_n (n := 24) hx 1 (dq tX0_kinOfAll 15 rfl) rfl rfl ?_
          refine g_aload_n (n := 25) hx 2 (dq tX0_kinOfAll 16 rfl) rfl rfl ?_
          refine g_getR (n := 28) hx glX0_18 (sX0_5 hk) (dq tX0_kinOfAll 17 rfl) rfl ?_
          refine g_iload_n (n := 29) hx 0 (dq tX0_kinOfAll 18 rfl) rfl rfl ?_
          refine g_iald (n := 30) (q := i_1.toNat) hx (aX0_5 (b := k) hk) (dq tX0_kinOfAll 19 rfl) rfl (by omega) (by omega) (by omega) rfl (fun h_18l h_18u => ?_)
          refine g_ior (n := 31) hx (dq tX0_kinOfAll 20 rfl) rfl (fun z_19 h_20 h_21 => ?_)
          clear h_21
          refine g_istore_n (n := 32) (lv' := [(2, vI z_19), (3, vI i_1), (0, aR Γ k), (1, vI logs)]) hx (dq tX0_kinOfAll 21 rfl) (by decide) rfl rfl ?_
          refine g_iinc (n := 35) (lv' := [(3, vI (i_1 + 1)), (2, vI z_19), (0, aR Γ k), (1, vI logs)]) hx 1 (dq tX0_kinOfAll 22 rfl) rfl (by decide) rfl rfl ?_
          refine g_goto (n := 4) hx (dq tX0_kinOfAll 23 rfl) (by decide) ?_
          exact ih_4 _ (by omega) (i_1 + 1) z_19 (by omega) (by omega) (by omega) (by omega) rfl
  exact L_3 _ 0 logs (by omega) (by omega) (by omega) (by omega) rfl

abbrev qctdrop_1_11 (M : zM) (a : Nat) (M' : zM) : Prop := (∀ u_ v_, u_ ≠ a → M' u_ v_ = M u_ v_)
set_option maxHeartbeats 4000000 in
set_option maxRecDepth 100000 in
theorem ctdrop_1_11 (Γ : Gam) (M : zM) (a : Nat) (ha : AI a 12 0 11)  : CtV Γ yX0_dropFirst cX0_dropFirst 1 none 1 60 [aR Γ a] M (qctdrop_1_11 M a) := by
  refine met_v (by decide) (Nat.le_of_ble_eq_true rfl) (fun x hx hr => ?_)
  show G Γ x 1 (QV Γ x (qctdrop_1_11 M a)) M 0 [(0, aR Γ a)] []
  refine g_aload_n (n := 1) hx 0 (dq tX0_dropFirst 0 rfl) rfl rfl ?_
  refine g_iconst (n := 2) hx (dq tX0_dropFirst 1 rfl) rfl ?_
  refine g_aload_n (n := 3) hx 0 (dq tX0_dropFirst 2 rfl) rfl rfl ?_
  refine g_iconst (n := 4) hx (dq tX0_dropFirst 3 rfl) rfl ?_
  refine g_aload_n (n := 5) hx 0 (dq tX0_dropFirst 4 rfl) rfl rfl ?_
  refine g_alen (n := 6) hx (akI ha) (dq tX0_dropFirst 5 rfl) rfl ?_
  refine g_iconst (n := 7) hx (dq tX0_dropFirst 6 rfl) rfl ?_
  refine g_isub (n := 8) hx (dq tX0_dropFirst 7 rfl) rfl ?_
  refine g_iv (fun hI_3 => ?_)
  refine g_copy (n := 11) hx wd_807 wd_581 wd_580 wd_18 (akI ha) (akI ha) (dq tX0_dropFirst 8 rfl) rfl (Nat.le_of_ble_eq_true rfl) (Nat.le_of_ble_eq_true rfl) (by omega) (by omega) (by omega) (by omega) (by omega) (by omega) (by omega) (by omega) (fun j => cpR hI_3 ha ha (by decide) (by decide) j _ _) (fun M_1 m_2e m_2 => ?_)
  exact g_vret hx hr (dq tX0_dropFirst 9 rfl) (fun u_ v_ huv_ => (m_2 u_ v_ (by omega)))

abbrev qctdrop_1_5 (M : zM) (a : Nat) (M' : zM) : Prop := (∀ u_ v_, u_ ≠ a → M' u_ v_ = M u_ v_)
set_option maxHeartbeats 4000000 in
set_option maxRecDepth 100000 in
theorem ctdrop_1_5 (Γ : Gam) (M : zM) (a : Nat) (ha : AI a 12 0 5)  : CtV Γ yX0_dropFirst cX0_dropFirst 1 none 1 60 [aR Γ a] M (qctdrop_1_5 M a) := by
  refine met_v (by decide) (Nat.le_of_ble_eq_true rfl) (fun x hx hr => ?_)
  show G Γ x 1 (QV Γ x (qctdrop_1_5 M a)) M 0 [(0, aR Γ a)] []
  refine g_aload_n (n := 1) hx 0 (dq tX0_dropFirst 0 rfl) rfl rfl ?_
  refine g_iconst (n := 2) hx (dq tX0_dropFirst 1 rfl) rfl ?_
  refine g_aload_n (n := 3) hx 0 (dq tX0_dropFirst 2 rfl) rfl rfl ?_
  refine g_iconst (n := 4) hx (dq tX0_dropFirst 3 rfl) rfl ?_
  refine g_aload_n (n := 5) hx 0 (dq tX0_dropFirst 4 rfl) rfl rfl ?_
  refine g_alen (n := 6) hx (akI ha) (dq tX0_dropFirst 5 rfl) rfl ?_
  refine g_iconst (n := 7) hx (dq tX0_dropFirst 6 rfl) rfl ?_
  refine g_isub (n := 8) hx (dq tX0_dropFirst 7 rfl) rfl ?_
  refine g_iv (fun hI_3 => ?_)
  refine g_copy (n := 11) hx wd_807 wd_581 wd_580 wd_18 (akI ha) (akI ha) (dq tX0_dropFirst 8 rfl) rfl (Nat.le_of_ble_eq_true rfl) (Nat.le_of_ble_eq_true rfl) (by omega) (by omega) (by omega) (by omega) (by omega) (by omega) (by omega) (by omega) (fun j => cpR hI_3 ha ha (by decide) (by decide) j _ _) (fun M_1 m_2e m_2 => ?_)
  exact g_vret hx hr (dq tX0_dropFirst 9 rfl) (fun u_ v_ huv_ => (m_2 u_ v_ (by omega)))

abbrev qctdrop_99_99 (M : zM) (a : Nat) (M' : zM) : Prop := (∀ u_ v_, u_ ≠ a → M' u_ v_ = M u_ v_)
set_option maxHeartbeats 4000000 in
set_option maxRecDepth 100000 in
theorem ctdrop_99_99 (Γ : Gam) (M : zM) (a : Nat) (ha : AI a 12 (-2147483648) 2147483647)  : CtV Γ yX0_dropFirst cX0_dropFirst 1 none 1 60 [aR Γ a] M (qctdrop_99_99 M a) := by
  refine met_v (by decide) (Nat.le_of_ble_eq_true rfl) (fun x hx hr => ?_)
  show G Γ x 1 (QV Γ x (qctdrop_99_99 M a)) M 0 [(0, aR Γ a)] []
  refine g_aload_n (n := 1) hx 0 (dq tX0_dropFirst 0 rfl) rfl rfl ?_
  refine g_iconst (n := 2) hx (dq tX0_dropFirst 1 rfl) rfl ?_
  refine g_aload_n (n := 3) hx 0 (dq tX0_dropFirst 2 rfl) rfl rfl ?_
  refine g_iconst (n := 4) hx (dq tX0_dropFirst 3 rfl) rfl ?_
  refine g_aload_n (n := 5) hx 0 (dq tX0_dropFirst 4 rfl) rfl rfl ?_
  refine g_alen (n := 6) hx (akI ha) (dq tX0_dropFirst 5 rfl) rfl ?_
  refine g_iconst (n := 7) hx (dq tX0_dropFirst 6 rfl) rfl ?_
  refine g_isub (n := 8) hx (dq tX0_dropFirst 7 rfl) rfl ?_
  refine g_iv (fun hI_3 => ?_)
  refine g_copy (n := 11) hx wd_807 wd_581 wd_580 wd_18 (akI ha) (akI ha) (dq tX0_dropFirst 8 rfl) rfl (Nat.le_of_ble_eq_true rfl) (Nat.le_of_ble_eq_true rfl) (by omega) (by omega) (by omega) (by omega) (by omega) (by omega) (by omega) (by omega) (fun j => cpR hI_3 ha ha (by decide) (by decide) j _ _) (fun M_1 m_2e m_2 => ?_)
  exact g_vret hx hr (dq tX0_dropFirst 9 rfl) (fun u_ v_ huv_ => (m_2 u_ v_ (by omega)))

abbrev qctdrop_0_5 (M : zM) (a : Nat) (M' : zM) : Prop := (∀ u_ v_, u_ ≠ a → M' u_ v_ = M u_ v_)
set_option maxHeartbeats 4000000 in
set_option maxRecDepth 100000 in
theorem ctdrop_0_5 (Γ : Gam) (M : zM) (a : Nat) (ha : AI a 12 (-1) 5)  : CtV Γ yX0_dropFirst cX0_dropFirst 1 none 1 60 [aR Γ a] M (qctdrop_0_5 M a) := by
  refine met_v (by decide) (Nat.le_of_ble_eq_true rfl) (fun x hx hr => ?_)
  show G Γ x 1 (QV Γ x (qctdrop_0_5 M a)) M 0 [(0, aR Γ a)] []
  refine g_aload_n (n := 1) hx 0 (dq tX0_dropFirst 0 rfl) rfl rfl ?_
  refine g_iconst (n := 2) hx (dq tX0_dropFirst 1 rfl) rfl ?_
  refine g_aload_n (n := 3) hx 0 (dq tX0_dropFirst 2 rfl) rfl rfl ?_
  refine g_iconst (n := 4) hx (dq tX0_dropFirst 3 rfl) rfl ?_
  refine g_aload_n (n := 5) hx 0 (dq tX0_dropFirst 4 rfl) rfl rfl ?_
  refine g_alen (n := 6) hx (akI ha) (dq tX0_dropFirst 5 rfl) rfl ?_
  refine g_iconst (n := 7) hx (dq tX0_dropFirst 6 rfl) rfl ?_
  refine g_isub (n := 8) hx (dq tX0_dropFirst 7 rfl) rfl ?_
  refine g_iv (fun hI_3 => ?_)
  refine g_copy (n := 11) hx wd_807 wd_581 wd_580 wd_18 (akI ha) (akI ha) (dq tX0_dropFirst 8 rfl) rfl (Nat.le_of_ble_eq_true rfl) (Nat.le_of_ble_eq_true rfl) (by omega) (by omega) (by omega) (by omega) (by omega) (by omega) (by omega) (by omega) (fun j => cpR hI_3 ha ha (by decide) (by decide) j _ _) (fun M_1 m_2e m_2 => ?_)
  exact g_vret hx hr (dq tX0_dropFirst 9 rfl) (fun u_ v_ huv_ => (m_2 u_ v_ (by omega)))

abbrev qctX0_keepCut (M : zM) (k : Nat) (log : Int) (place : Int) (village : Int) (before : Int) (M' : zM) : Prop := (∀ u_ v_, (u_ ≠ k ∨ v_ ≠ 11) ∧ u_ ≠ k + 8 ∧ u_ ≠ k + 9 ∧ u_ ≠ k + 10 ∧ u_ ≠ k + 11 → M' u_ v_ = M u_ v_)
set_option maxHeartbeats 4000000 in
set_option maxRecDepth 100000 in
theorem ctX0_keepCut (Γ : Gam) (M : zM) (k : Nat) (hk : isX0 k) (log : Int) (hlogl : 0 ≤ log) (hlogu : log ≤ 11) (place : Int) (hplacel : 0 ≤ place) (hplaceu : place ≤ 5) (village : Int) (hvillagel : (-2147483648) ≤ village) (hvillageu : village ≤ 2147483647) (before : Int) (hbeforel : (-1) ≤ before) (hbeforeu : before ≤ 5)  : CtV Γ yX0_keepCut cX0_keepCut 5 none 2 80 [aR Γ k, vI log, vI place, vI village, vI before] M (qctX0_keepCut M k log place village before) := by
  refine met_v (by decide) (Nat.le_of_ble_eq_true rfl) (fun x hx hr => ?_)
  show G Γ x 5 (QV Γ x (qctX0_keepCut M k log place village before)) M 0 [(0, aR Γ k), (1, vI log), (2, vI place), (3, vI village), (4, vI before)] []
  refine g_aload_n (n := 1) hx 0 (dq tX0_keepCut 0 rfl) rfl rfl ?_
  refine g_getI (n := 4) hx glX0_64 (sX0_11 hk) (dq tX0_keepCut 1 rfl) rfl (fun h_1l h_1u => ?_)
  refine g_bipush (n := 6) hx (dq tX0_keepCut 2 rfl) rfl (by decide) ?_
  have J_5 : ∀ (M_3 : zM),  (∀ u_ v_, (u_ ≠ k ∨ v_ ≠ 11) ∧ u_ ≠ k + 11 ∧ u_ ≠ k + 10 ∧ u_ ≠ k + 9 ∧ u_ ≠ k + 8 → M_3 u_ v_ = M u_ v_) → (M_3 k 11 ≤ 11) → G Γ x 5 (QV Γ x (qctX0_keepCut M k log place village before)) M_3 43 [(0, aR Γ k), (1, vI log), (2, vI place), (3, vI village), (4, vI before)] [] := by
    intro M_3 f_4 h_6
    refine g_aload_n (n := 44) hx 0 (dq tX0_keepCut 19 rfl) rfl rfl ?_
    refine g_getR (n := 47) hx glX0_33 (sX0_12 hk) (dq tX0_keepCut 20 rfl) rfl ?_
    refine g_aload_n (n := 48) hx 0 (dq tX0_keepCut 21 rfl) rfl rfl ?_
    refine g_getI (n := 51) hx glX0_64 (sX0_11 hk) (dq tX0_keepCut 22 rfl) rfl (fun h_7l h_7u => ?_)
    refine g_iload_n (n := 52) hx 1 (dq tX0_keepCut 23 rfl) rfl rfl ?_
    refine g_iast (n := 53) (q := (M_3 k 11).toNat) hx (aX0_12 (b := k) hk) (dq tX0_keepCut 24 rfl) rfl (by omega) (by omega) (by omega) rfl (by omega) (by omega) (fun M_8 m_9e m_9 => ?_)
    refine g_aload_n (n := 54) hx 0 (dq tX0_keepCut 25 rfl) rfl rfl ?_
    refine g_getR (n := 57) hx glX0_36 (sX0_13 hk) (dq tX0_keepCut 26 rfl) rfl ?_
    refine g_aload_n (n := 58) hx 0 (dq tX0_keepCut 27 rfl) rfl rfl ?_
    refine g_getI (n := 61) hx glX0_64 (sX0_11 hk) (dq tX0_keepCut 28 rfl) rfl (fun h_10l h_10u => ?_)
    have e_11 : M_8 k 11 = M_3 k 11 := (m_9 k 11 (by omega))
    refine g_iload_n (n := 62) hx 2 (dq tX0_keepCut 29 rfl) rfl rfl ?_
    refine g_iast (n := 63) (q := (M_8 k 11).toNat) hx (aX0_13 (b := k) hk) (dq tX0_keepCut 30 rfl) rfl (by omega) (by omega) (by omega) rfl (by omega) (by omega) (fun M_12 m_13e m_13 => ?_)
    refine g_aload_n (n := 64) hx 0 (dq tX0_keepCut 31 rfl) rfl rfl ?_
    refine g_getR (n := 67) hx glX0_39 (sX0_14 hk) (dq tX0_keepCut 32 rfl) rfl ?_
    refine g_aload_n (n := 68) hx 0 (dq tX0_keepCut 33 rfl) rfl rfl ?_
    refine g_getI (n := 71) hx glX0_64 (sX0_11 hk) (dq tX0_keepCut 34 rfl) rfl (fun h_14l h_14u => ?_)
    have e_15 : M_12 k 11 = M_8 k 11 := (m_13 k 11 (by omega))
    refine g_iload_n (n := 72) hx 3 (dq tX0_keepCut 35 rfl) rfl rfl ?_
    refine g_iast (n := 73) (q := (M_12 k 11).toNat) hx (aX0_14 (b := k) hk) (dq tX0_keepCut 36 rfl) rfl (by omega) (by omega) (by omega) rfl (by omega) (by omega) (fun M_16 m_17e m_17 => ?_)
    refine g_aload_n (n := 74) hx 0 (dq tX0_keepCut 37 rfl) rfl rfl ?_
    refine g_getR (n := 77) hx glX0_42 (sX0_15 hk) (dq tX0_keepCut 38 rfl) rfl ?_
    refine g_aload_n (n := 78) hx 0 (dq tX0_keepCut 39 rfl) rfl rfl ?_
    refine g_getI (n := 81) hx glX0_64 (sX0_11 hk) (dq tX0_keepCut 40 rfl) rfl (fun h_18l h_18u => ?_)
    have e_19 : M_16 k 11 = M_12 k 11 := (m_17 k 11 (by omega))
    refine g_iload (n := 83) hx 4 (dq tX0_keepCut 41 rfl) rfl rfl ?_
    refine g_iast (n := 84) (q := (M_16 k 11).toNat) hx (aX0_15 (b := k) hk) (dq tX0_keepCut 42 rfl) rfl (by omega) (by omega) (by omega) rfl (by omega) (by omega) (fun M_20 m_21e m_21 => ?_)
    refine g_aload_n (n := 85) hx 0 (dq tX0_keepCut 43 rfl) rfl rfl ?_
    refine g_dup (n := 86) hx (dq tX0_keepCut 44 rfl) rfl rfl ?_
    refine g_getI (n := 89) hx glX0_64 (sX0_11 hk) (dq tX0_keepCut 45 rfl) rfl (fun h_22l h_22u => ?_)
    have e_23 : M_20 k 11 = M_16 k 11 := (m_21 k 11 (by omega))
    refine g_iconst (n := 90) hx (dq tX0_keepCut 46 rfl) rfl ?_
    refine g_iadd (n := 91) hx (dq tX0_keepCut 47 rfl) rfl ?_
    refine g_putI (n := 94) hx plX0_64 (sX0_11 hk) (dq tX0_keepCut 48 rfl) rfl (by omega) (by omega) (fun M_24 m_25e m_25 => ?_)
    exact g_vret hx hr (dq tX0_keepCut 49 rfl) (fun u_ v_ huv_ => ((((((m_25 u_ v_ (by omega)).trans (m_21 u_ v_ (by omega))).trans (m_17 u_ v_ (by omega))).trans (m_13 u_ v_ (by omega))).trans (m_9 u_ v_ (by omega))).trans (f_4 u_ v_ (by omega))))
  refine g_icmp_lt (n := 9) (t := 43) hx (dq tX0_keepCut 3 rfl) (by decide) rfl (zrI h_1l h_1u (by decide) (by decide)) ⟨by decide, by decide⟩ (fun c_2 => ?_) (fun c_2 => ?_)
  · exact J_5 M (fun _ _ _ => rfl) (by first | assumption | omega)
  · refine g_aload_n (n := 10) hx 0 (dq tX0_keepCut 4 rfl) rfl rfl ?_
    refine g_getR (n := 13) hx glX0_33 (sX0_12 hk) (dq tX0_keepCut 5 rfl) rfl ?_
    refine g_callSv (n := 16) (As := [aR Γ (k + 8)]) (rest := []) hx (ctdrop_1_11 Γ M (k + 8) (aX0_12 (b := k) hk)) mlX0_74 (dq tX0_keepCut 6 rfl) rfl (Nat.le_of_ble_eq_true rfl) (Nat.le_of_ble_eq_true rfl) (Nat.le_of_ble_eq_true rfl) rfl (fun M_27 p_29 => ?_)
    have f_30 := p_29
    refine g_aload_n (n := 17) hx 0 (dq tX0_keepCut 7 rfl) rfl rfl ?_
    refine g_getR (n := 20) hx glX0_36 (sX0_13 hk) (dq tX0_keepCut 8 rfl) rfl ?_
    refine g_callSv (n := 23) (As := [aR Γ (k + 9)]) (rest := []) hx (ctdrop_1_5 Γ M_27 (k + 9) (aX0_13 (b := k) hk)) mlX0_74 (dq tX0_keepCut 9 rfl) rfl (Nat.le_of_ble_eq_true rfl) (Nat.le_of_ble_eq_true rfl) (Nat.le_of_ble_eq_true rfl) rfl (fun M_32 p_34 => ?_)
    have f_35 := p_34
    refine g_aload_n (n := 24) hx 0 (dq tX0_keepCut 10 rfl) rfl rfl ?_
    refine g_getR (n := 27) hx glX0_39 (sX0_14 hk) (dq tX0_keepCut 11 rfl) rfl ?_
    refine g_callSv (n := 30) (As := [aR Γ (k + 10)]) (rest := []) hx (ctdrop_99_99 Γ M_32 (k + 10) (aX0_14 (b := k) hk)) mlX0_74 (dq tX0_keepCut 12 rfl) rfl (Nat.le_of_ble_eq_true rfl) (Nat.le_of_ble_eq_true rfl) (Nat.le_of_ble_eq_true rfl) rfl (fun M_37 p_39 => ?_)
    have f_40 := p_39
    refine g_aload_n (n := 31) hx 0 (dq tX0_keepCut 13 rfl) rfl rfl ?_
    refine g_getR (n := 34) hx glX0_42 (sX0_15 hk) (dq tX0_keepCut 14 rfl) rfl ?_
    refine g_callSv (n := 37) (As := [aR Γ (k + 11)]) (rest := []) hx (ctdrop_0_5 Γ M_37 (k + 11) (aX0_15 (b := k) hk)) mlX0_74 (dq tX0_keepCut 15 rfl) rfl (Nat.le_of_ble_eq_true rfl) (Nat.le_of_ble_eq_true rfl) (Nat.le_of_ble_eq_true rfl) rfl (fun M_42 p_44 => ?_)
    have f_45 := p_44
    refine g_aload_n (n := 38) hx 0 (dq tX0_keepCut 16 rfl) rfl rfl ?_
    refine g_bipush (n := 40) hx (dq tX0_keepCut 17 rfl) rfl (by decide) ?_
    refine g_putI (n := 43) hx plX0_64 (sX0_11 hk) (dq tX0_keepCut 18 rfl) rfl (by omega) (by omega) (fun M_46 m_47e m_47 => ?_)
    exact J_5 M_46 (fun u_ v_ huv_ => (((((m_47 u_ v_ (by omega)).trans (f_45 u_ v_ (by omega))).trans (f_40 u_ v_ (by omega))).trans (f_35 u_ v_ (by omega))).trans (f_30 u_ v_ (by omega)))) (by first | assumption | omega)

abbrev qctX0_sightAhead (M : zM) (k : Nat) (sight : Int) (z : Int) (M' : zM) : Prop := M = M' ∧ (-1) ≤ z ∧ z ≤ 19
set_option maxHeartbeats 4000000 in
set_option maxRecDepth 100000 in
theorem ctX0_sightAhead (Γ : Gam) (M : zM) (k : Nat) (hk : isX0 k) (sight : Int) (hsightl : 0 ≤ sight) (hsightu : sight ≤ 19)  : CtI Γ yX0_sightAhead cX0_sightAhead 3 (some .int) 0 0 [aR Γ k, vI sight] M (qctX0_sightAhead M k sight) := by
  refine met_i (by decide) (Nat.le_of_ble_eq_true rfl) (fun x hx hr => ?_)
  show G Γ x 3 (QI Γ x (qctX0_sightAhead M k sight)) M 0 [(0, aR Γ k), (1, vI sight)] []
  refine g_iload_n (n := 1) hx 1 (dq tX0_sightAhead 0 rfl) rfl rfl ?_
  refine g_iconst (n := 2) hx (dq tX0_sightAhead 1 rfl) rfl ?_
  refine g_isub (n := 3) hx (dq tX0_sightAhead 2 rfl) rfl ?_
  refine g_istore_n (n := 4) (lv' := [(2, vI (sight - 1)), (0, aR Γ k), (1, vI sight)]) hx (dq tX0_sightAhead 3 rfl) (by decide) rfl rfl ?_
  have L_2 : ∀ (n_ : Nat) (i_1 : Int), ((-1) ≤ i_1) → (i_1 ≤ 18) → ((i_1 - (-1)).toNat = n_) → G Γ x 3 (QI Γ x (qctX0_sightAhead M k sight)) M 4 [(2, vI i_1), (0, aR Γ k), (1, vI sight)] [] := by
    intro n_
    induction n_ using Nat.strongRecOn with
    | _ n_ ih_3 =>
      intro i_1 h_6 h_7 hm_5
      refine g_iload_n (n := 5) hx 0 (dq tX0_sightAhead 4 rfl) rfl rfl ?_
      refine g_if_lt (n := 8) (t := 44) hx (dq tX0_sightAhead 5 rfl) (by decide) rfl ⟨by omega, by omega⟩ (fun c_8 => ?_) (fun c_8 => ?_)
      · refine g_iload_n (n := 45) hx 0 (dq tX0_sightAhead 26 rfl) rfl rfl ?_
        exact g_iret hx hr (dq tX0_sightAhead 27 rfl) ⟨by omega, by omega⟩ ⟨rfl, (by omega), (by omega)⟩
      · refine g_aload_n (n := 9) hx 1 (dq tX0_sightAhead 6 rfl) rfl rfl ?_
        refine g_getR (n := 12) hx glX0_21 (sX0_7 hk) (dq tX0_sightAhead 7 rfl) rfl ?_
        refine g_iload_n (n := 13) hx 0 (dq tX0_sightAhead 8 rfl) rfl rfl ?_
        refine g_iald (n := 14) (q := i_1.toNat) hx (aX0_7 (b := k) hk) (dq tX0_sightAhead 9 rfl) rfl (by omega) (by omega) (by omega) rfl (fun h_9l h_9u => ?_)
        refine g_aload_n (n := 15) hx 1 (dq tX0_sightAhead 10 rfl) rfl rfl ?_
        refine g_getR (n := 18) hx glX0_21 (sX0_7 hk) (dq tX0_sightAhead 11 rfl) rfl ?_
        refine g_iload_n (n := 19) hx 2 (dq tX0_sightAhead 12 rfl) rfl rfl ?_
        refine g_iald (n := 20) (q := sight.toNat) hx (aX0_7 (b := k) hk) (dq tX0_sightAhead 13 rfl) rfl (by omega) (by omega) (by omega) rfl (fun h_10l h_10u => ?_)
        refine g_icmp_ne (n := 23) (t := 38) hx (dq tX0_sightAhead 14 rfl) (by decide) rfl (zrI h_9l h_9u (by decide) (by decide)) (zrI h_10l h_10u (by decide) (by decide)) (fun c_11 => ?_) (fun c_11 => ?_)
        · refine g_iinc (n := 41) (lv' := [(2, vI (i_1 + (-1))), (0, aR Γ k), (1, vI sight)]) hx 0 (dq tX0_sightAhead 24 rfl) rfl (by decide) rfl rfl ?_
          refine g_goto (n := 4) hx (dq tX0_sightAhead 25 rfl) (by decide) ?_
          exact ih_3 _ (by omega) (i_1 + (-1)) (by omega) (by omega) rfl
        · refine g_aload_n (n := 24) hx 1 (dq tX0_sightAhead 15 rfl) rfl rfl ?_
          refine g_getR (n := 27) hx glX0_24 (sX0_8 hk) (dq tX0_sightAhead 16 rfl) rfl ?_
          refine g_iload_n (n := 28) hx 0 (dq tX0_sightAhead 17 rfl) rfl rfl ?_
          refine g_iald (n := 29) (q := i_1.toNat) hx (aX0_8 (b := k) hk) (dq tX0_sightAhead 18 rfl) rfl (by omega) (by omega) (by omega) rfl (fun h_12l h_12u => ?_)
          refine g_aload_n (n := 30) hx 1 (dq tX0_sightAhead 19 rfl) rfl rfl ?_
          refine g_getR (n := 33) hx glX0_24 (sX0_8 hk) (dq tX0_sightAhead 20 rfl) rfl ?_
          refine g_iload_n (n := 34) hx 2 (dq tX0_sightAhead 21 rfl) rfl rfl ?_
          refine g_iald (n := 35) (q := sight.toNat) hx (aX0_8 (b := k) hk) (dq tX0_sightAhead 22 rfl) rfl (by omega) (by omega) (by omega) rfl (fun h_13l h_13u => ?_)
          refine g_icmp_eq (n := 38) (t := 44) hx (dq tX0_sightAhead 23 rfl) (by decide) rfl (zrI h_12l h_12u (by decide) (by decide)) (zrI h_13l h_13u (by decide) (by decide)) (fun c_14 => ?_) (fun c_14 => ?_)
          · refine g_iload_n (n := 45) hx 0 (dq tX0_sightAhead 26 rfl) rfl rfl ?_
            exact g_iret hx hr (dq tX0_sightAhead 27 rfl) ⟨by omega, by omega⟩ ⟨rfl, (by omega), (by omega)⟩
          · refine g_iinc (n := 41) (lv' := [(2, vI (i_1 + (-1))), (0, aR Γ k), (1, vI sight)]) hx 0 (dq tX0_sightAhead 24 rfl) rfl (by decide) rfl rfl ?_
            refine g_goto (n := 4) hx (dq tX0_sightAhead 25 rfl) (by decide) ?_
            exact ih_3 _ (by omega) (i_1 + (-1)) (by omega) (by omega) rfl
  exact L_2 _ (sight - 1) (by omega) (by omega) rfl

abbrev qctX0_partedSight (M : zM) (k : Nat) (log : Int) (place : Int) (z : Int) (M' : zM) : Prop := M = M' ∧ (-1) ≤ z ∧ z ≤ 19
set_option maxHeartbeats 4000000 in
set_option maxRecDepth 100000 in
theorem ctX0_partedSight (Γ : Gam) (M : zM) (k : Nat) (hk : isX0 k) (log : Int) (hlogl : (-2147483648) ≤ log) (hlogu : log ≤ 2147483647) (place : Int) (hplacel : (-2147483648) ≤ place) (hplaceu : place ≤ 2147483647)  : CtI Γ yX0_partedSight cX0_partedSight 5 (some .int) 1 22 [aR Γ k, vI log, vI place] M (qctX0_partedSight M k log place) := by
  refine met_i (by decide) (Nat.le_of_ble_eq_true rfl) (fun x hx hr => ?_)
  show G Γ x 5 (QI Γ x (qctX0_partedSight M k log place)) M 0 [(0, aR Γ k), (1, vI log), (2, vI place)] []
  refine g_iconst (n := 1) hx (dq tX0_partedSight 0 rfl) rfl ?_
  refine g_istore_n (n := 2) (lv' := [(3, vI 0), (0, aR Γ k), (1, vI log), (2, vI place)]) hx (dq tX0_partedSight 1 rfl) (by decide) rfl rfl ?_
  have L_2 : ∀ (n_ : Nat) (i_1 : Int), (0 ≤ i_1) → (i_1 ≤ 20) → ((20 - i_1).toNat = n_) → G Γ x 5 (QI Γ x (qctX0_partedSight M k log place)) M 2 [(3, vI i_1), (0, aR Γ k), (1, vI log), (2, vI place)] [] := by
    intro n_
    induction n_ using Nat.strongRecOn with
    | _ n_ ih_3 =>
      intro i_1 h_6 h_7 hm_5
      refine g_iload_n (n := 3) hx 0 (dq tX0_partedSight 2 rfl) rfl rfl ?_
      refine g_aload_n (n := 4) hx 1 (dq tX0_partedSight 3 rfl) rfl rfl ?_
      refine g_getI (n := 7) hx glX0_61 (sX0_6 hk) (dq tX0_partedSight 4 rfl) rfl (fun h_8l h_8u => ?_)
      refine g_icmp_ge (n := 10) (t := 67) hx (dq tX0_partedSight 5 rfl) (by decide) rfl ⟨by omega, by omega⟩ (zrI h_8l h_8u (by decide) (by decide)) (fun c_9 => ?_) (fun c_9 => ?_)
      · refine g_iconst (n := 68) hx (dq tX0_partedSight 38 rfl) rfl ?_
        exact g_iret hx hr (dq tX0_partedSight 39 rfl) ⟨by decide, by decide⟩ ⟨rfl, (by omega), (by omega)⟩
      · refine g_aload_n (n := 11) hx 1 (dq tX0_partedSight 6 rfl) rfl rfl ?_
        refine g_getR (n := 14) hx glX0_21 (sX0_7 hk) (dq tX0_partedSight 7 rfl) rfl ?_
        refine g_iload_n (n := 15) hx 0 (dq tX0_partedSight 8 rfl) rfl rfl ?_
        refine g_iald (n := 16) (q := i_1.toNat) hx (aX0_7 (b := k) hk) (dq tX0_partedSight 9 rfl) rfl (by omega) (by omega) (by omega) rfl (fun h_10l h_10u => ?_)
        refine g_iload_n (n := 17) hx 2 (dq tX0_partedSight 10 rfl) rfl rfl ?_
        refine g_icmp_ne (n := 20) (t := 61) hx (dq tX0_partedSight 11 rfl) (by decide) rfl (zrI h_10l h_10u (by decide) (by decide)) (zrI hlogl hlogu (by decide) (by decide)) (fun c_11 => ?_) (fun c_11 => ?_)
        · refine g_iinc (n := 64) (lv' := [(3, vI (i_1 + 1)), (0, aR Γ k), (1, vI log), (2, vI place)]) hx 0 (dq tX0_partedSight 36 rfl) rfl (by decide) rfl rfl ?_
          refine g_goto (n := 2) hx (dq tX0_partedSight 37 rfl) (by decide) ?_
          exact ih_3 _ (by omega) (i_1 + 1) (by omega) (by omega) rfl
        · refine g_aload_n (n := 21) hx 1 (dq tX0_partedSight 12 rfl) rfl rfl ?_
          refine g_getR (n := 24) hx glX0_24 (sX0_8 hk) (dq tX0_partedSight 13 rfl) rfl ?_
          refine g_iload_n (n := 25) hx 0 (dq tX0_partedSight 14 rfl) rfl rfl ?_
          refine g_iald (n := 26) (q := i_1.toNat) hx (aX0_8 (b := k) hk) (dq tX0_partedSight 15 rfl) rfl (by omega) (by omega) (by omega) rfl (fun h_12l h_12u => ?_)
          refine g_iload_n (n := 27) hx 3 (dq tX0_partedSight 16 rfl) rfl rfl ?_
          refine g_icmp_ne (n := 30) (t := 61) hx (dq tX0_partedSight 17 rfl) (by decide) rfl (zrI h_12l h_12u (by decide) (by decide)) (zrI hplacel hplaceu (by decide) (by decide)) (fun c_13 => ?_) (fun c_13 => ?_)
          · refine g_iinc (n := 64) (lv' := [(3, vI (i_1 + 1)), (0, aR Γ k), (1, vI log), (2, vI place)]) hx 0 (dq tX0_partedSight 36 rfl) rfl (by decide) rfl rfl ?_
            refine g_goto (n := 2) hx (dq tX0_partedSight 37 rfl) (by decide) ?_
            exact ih_3 _ (by omega) (i_1 + 1) (by omega) (by omega) rfl
          · refine g_aload_n (n := 31) hx 1 (dq tX0_partedSight 18 rfl) rfl rfl ?_
            refine g_iload_n (n := 32) hx 0 (dq tX0_partedSight 19 rfl) rfl rfl ?_
            refine g_callVi (n := 35) (As := [vI i_1]) (rest := []) hx (ctX0_sightAhead Γ M k hk i_1 (by omega) (by omega)) mlX0_84 (obX0 hk) (dq tX0_partedSight 20 rfl) rfl (Nat.le_of_ble_eq_true rfl) (Nat.le_of_ble_eq_true rfl) (Nat.le_of_ble_eq_true rfl) rfl (fun z_14 M_15 h_16 p_17 => ?_)
            obtain ⟨rfl, h_19, h_20⟩ := p_17
            refine g_istore (n := 37) (lv' := [(4, vI z_14), (3, vI i_1), (0, aR Γ k), (1, vI log), (2, vI place)]) hx (dq tX0_partedSight 21 rfl) (by decide) rfl rfl ?_
            refine g_iload (n := 39) hx 0 (dq tX0_partedSight 22 rfl) rfl rfl ?_
            refine g_iconst (n := 40) hx (dq tX0_partedSight 23 rfl) rfl ?_
            refine g_icmp_eq (n := 43) (t := 61) hx (dq tX0_partedSight 24 rfl) (by decide) rfl h_16 ⟨by decide, by decide⟩ (fun c_21 => ?_) (fun c_21 => ?_)
            · refine g_iinc (n := 64) (lv' := [(3, vI (i_1 + 1)), (4, vI z_14), (0, aR Γ k), (1, vI log), (2, vI place)]) hx 1 (dq tX0_partedSight 36 rfl) rfl (by decide) rfl rfl ?_
              refine g_goto (n := 2) hx (dq tX0_partedSight 37 rfl) (by decide) ?_
              refine g_lv [0, 2, 3, 4] rfl ?_
              exact ih_3 _ (by omega) (i_1 + 1) (by omega) (by omega) rfl
            · refine g_aload_n (n := 44) hx 2 (dq tX0_partedSight 25 rfl) rfl rfl ?_
              refine g_getR (n := 47) hx glX0_27 (sX0_9 hk) (dq tX0_partedSight 26 rfl) rfl ?_
              refine g_iload (n := 49) hx 0 (dq tX0_partedSight 27 rfl) rfl rfl ?_
              refine g_iald (n := 50) (q := z_14.toNat) hx (aX0_9 (b := k) hk) (dq tX0_partedSight 28 rfl) rfl (by omega) (by omega) (by omega) rfl (fun h_22l h_22u => ?_)
              refine g_aload_n (n := 51) hx 2 (dq tX0_partedSight 29 rfl) rfl rfl ?_
              refine g_getR (n := 54) hx glX0_27 (sX0_9 hk) (dq tX0_partedSight 30 rfl) rfl ?_
              refine g_iload_n (n := 55) hx 1 (dq tX0_partedSight 31 rfl) rfl rfl ?_
              refine g_iald (n := 56) (q := i_1.toNat) hx (aX0_9 (b := k) hk) (dq tX0_partedSight 32 rfl) rfl (by omega) (by omega) (by omega) rfl (fun h_23l h_23u => ?_)
              refine g_icmp_eq (n := 59) (t := 61) hx (dq tX0_partedSight 33 rfl) (by decide) rfl (zrI h_22l h_22u (by decide) (by decide)) (zrI h_23l h_23u (by decide) (by decide)) (fun c_24 => ?_) (fun c_24 => ?_)
              · refine g_iinc (n := 64) (lv' := [(3, vI (i_1 + 1)), (4, vI z_14), (0, aR Γ k), (1, vI log), (2, vI place)]) hx 1 (dq tX0_partedSight 36 rfl) rfl (by decide) rfl rfl ?_
                refine g_goto (n := 2) hx (dq tX0_partedSight 37 rfl) (by decide) ?_
                refine g_lv [0, 2, 3, 4] rfl ?_
                exact ih_3 _ (by omega) (i_1 + 1) (by omega) (by omega) rfl
              · refine g_iload_n (n := 60) hx 1 (dq tX0_partedSight 34 rfl) rfl rfl ?_
                exact g_iret hx hr (dq tX0_partedSight 35 rfl) ⟨by omega, by omega⟩ ⟨rfl, (by omega), (by omega)⟩
  exact L_2 _ 0 (by omega) (by omega) rfl

abbrev qctX0_keepPlaces (M : zM) (k : Nat) (s : Nat) (M' : zM) : Prop := (∀ u_ v_, u_ ≠ k + 12 → M' u_ v_ = M u_ v_)
set_option maxHeartbeats 4000000 in
set_option maxRecDepth 100000 in
theorem ctX0_keepPlaces (Γ : Gam) (M : zM) (k : Nat) (hk : isX0 k) (s : Nat) (hs : isX6 s)  : CtV Γ yX0_keepPlaces cX0_keepPlaces 2 none 1 60 [aR Γ k, aR Γ s] M (qctX0_keepPlaces M k s) := by
  refine met_v (by decide) (Nat.le_of_ble_eq_true rfl) (fun x hx hr => ?_)
  show G Γ x 2 (QV Γ x (qctX0_keepPlaces M k s)) M 0 [(0, aR Γ k), (1, aR Γ s)] []
  refine g_aload_n (n := 1) hx 1 (dq tX0_keepPlaces 0 rfl) rfl rfl ?_
  refine g_getR (n := 4) hx glX0_88 (sX6_8 hs) (dq tX0_keepPlaces 1 rfl) rfl ?_
  refine g_iconst (n := 5) hx (dq tX0_keepPlaces 2 rfl) rfl ?_
  refine g_aload_n (n := 6) hx 0 (dq tX0_keepPlaces 3 rfl) rfl rfl ?_
  refine g_getR (n := 9) hx glX0_45 (sX0_16 hk) (dq tX0_keepPlaces 4 rfl) rfl ?_
  refine g_aload_n (n := 10) hx 1 (dq tX0_keepPlaces 5 rfl) rfl rfl ?_
  refine g_getI (n := 13) hx glX0_93 (sX6_0 hs) (dq tX0_keepPlaces 6 rfl) rfl (fun h_1l h_1u => ?_)
  refine g_bipush (n := 15) hx (dq tX0_keepPlaces 7 rfl) rfl (by decide) ?_
  refine g_irem (n := 16) hx (dq tX0_keepPlaces 8 rfl) rfl (zrI h_1l h_1u (by decide) (by decide)) ⟨by decide, by decide⟩ (by decide) (fun z_2 h_3 h_4 => ?_)
  obtain ⟨h_41, h_42, h_43, -⟩ := h_4 (by omega)
  obtain ⟨h_44, h_45, h_46⟩ := h_43 (by omega)
  clear h_4 h_43
  refine g_bipush (n := 18) hx (dq tX0_keepPlaces 9 rfl) rfl (by decide) ?_
  refine g_imul (n := 19) hx (dq tX0_keepPlaces 10 rfl) rfl ?_
  refine g_bipush (n := 21) hx (dq tX0_keepPlaces 11 rfl) rfl (by decide) ?_
  refine g_iv (fun hI_7 => ?_)
  refine g_copy (n := 24) hx wd_807 wd_581 wd_580 wd_18 (akI (aX6_8 (b := s) hs)) (akI (aX0_16 (b := k) hk)) (dq tX0_keepPlaces 12 rfl) rfl (Nat.le_of_ble_eq_true rfl) (Nat.le_of_ble_eq_true rfl) (by omega) (by omega) (by omega) (by omega) (by omega) (by omega) (by omega) (by omega) (fun j => cpR hI_7 (aX6_8 (b := s) hs) (aX0_16 (b := k) hk) (by decide) (by decide) j _ _) (fun M_5 m_6e m_6 => ?_)
  exact g_vret hx hr (dq tX0_keepPlaces 13 rfl) (fun u_ v_ huv_ => (m_6 u_ v_ (by omega)))

abbrev qctX8_jam (M : zM) (b : Nat) (log : Int) (M' : zM) : Prop := (∀ u_ v_, (u_ ≠ b ∨ v_ ≠ 8) ∧ (u_ < b + 3 ∨ b + 11 ≤ u_) ∧ (u_ ≠ b + 11 ∨ v_ ≠ 1) ∧ (u_ < b + 12 ∨ b + 28 ≤ u_) → M' u_ v_ = M u_ v_) ∧ Gd M' 37 (b + 1)
set_option maxHeartbeats 4000000 in
set_option maxRecDepth 100000 in
theorem ctX8_jam (Γ : Gam) (M : zM) (b : Nat) (hb : isX8 b) (log : Int) (hlogl : 0 ≤ log) (hlogu : log ≤ 11) (gd0 : Gd M 37 (b + 1)) : CtV Γ yX8_jam cX8_jam 2 none 0 0 [aR Γ b, vI log] M (qctX8_jam M b log) := by
  refine met_v (by decide) (Nat.le_of_ble_eq_true rfl) (fun x hx hr => ?_)
  show G Γ x 2 (QV Γ x (qctX8_jam M b log)) M 0 [(0, aR Γ b), (1, vI log)] []
  refine g_aload_n (n := 1) hx 0 (dq tX8_jam 0 rfl) rfl rfl ?_
  refine g_getR (n := 4) hx glX8_25 (sX8_3 hb) (dq tX8_jam 1 rfl) rfl ?_
  refine g_iconst (n := 5) hx (dq tX8_jam 2 rfl) rfl ?_
  refine g_dup2 (n := 6) hx (dq tX8_jam 3 rfl) rfl rfl rfl ?_
  refine g_iald (n := 7) (q := 0) hx (aX8_3 (b := b) hb) (dq tX8_jam 4 rfl) rfl (by decide) (by decide) (by decide) rfl (fun h_1l h_1u => ?_)
  refine g_iconst (n := 8) hx (dq tX8_jam 5 rfl) rfl ?_
  refine g_iadd (n := 9) hx (dq tX8_jam 6 rfl) rfl ?_
  refine g_any (fun z_2 h_3 => ?_)
  refine g_iast (n := 10) (q := 0) hx (aX8_3 (b := b) hb) (dq tX8_jam 7 rfl) rfl (by decide) (by decide) (by decide) rfl (by omega) (by omega) (fun M_4 m_5e m_5 => ?_)
  have g_6 : Gd M_4 37 (b + 1) := Gd.frame gd0 (fun c j hcj => m_5 c j (by omega))
  refine g_aload_n (n := 11) hx 0 (dq tX8_jam 8 rfl) rfl rfl ?_
  refine g_getR (n := 14) hx glX8_12 (sX8_1 hb) (dq tX8_jam 9 rfl) rfl ?_
  refine g_getR (n := 17) hx glX8_231 (sX6_10 (iX8_1 hb)) (dq tX8_jam 10 rfl) rfl ?_
  refine g_iload_n (n := 18) hx 1 (dq tX8_jam 11 rfl) rfl rfl ?_
  refine g_dup2 (n := 19) hx (dq tX8_jam 12 rfl) rfl rfl rfl ?_
  refine g_iald (n := 20) (q := log.toNat) hx (aX6_10 (b := b + 1) (iX8_1 hb)) (dq tX8_jam 13 rfl) rfl (by omega) (by omega) (by omega) rfl (fun h_7l h_7u => ?_)
  refine g_iconst (n := 21) hx (dq tX8_jam 14 rfl) rfl ?_
  refine g_iadd (n := 22) hx (dq tX8_jam 15 rfl) rfl ?_
  refine g_any (fun z_8 h_9 => ?_)
  refine g_iast (n := 23) (q := log.toNat) hx (aX6_10 (b := b + 1) (iX8_1 hb)) (dq tX8_jam 16 rfl) rfl (by omega) (by omega) (by omega) rfl (by omega) (by omega) (fun M_10 m_11e m_11 => ?_)
  have g_12 : Gd M_10 37 (b + 1) := Gd.frame g_6 (fun c j hcj => m_11 c j (by omega))
  refine g_aload_n (n := 24) hx 0 (dq tX8_jam 17 rfl) rfl rfl ?_
  refine g_getR (n := 27) hx glX8_12 (sX8_1 hb) (dq tX8_jam 18 rfl) rfl ?_
  refine g_getR (n := 30) hx glX8_215 (sX6_11 (iX8_1 hb)) (dq tX8_jam 19 rfl) rfl ?_
  refine g_iload_n (n := 31) hx 1 (dq tX8_jam 20 rfl) rfl rfl ?_
  refine g_dup2 (n := 32) hx (dq tX8_jam 21 rfl) rfl rfl rfl ?_
  refine g_iald (n := 33) (q := log.toNat) hx (aX6_11 (b := b + 1) (iX8_1 hb)) (dq tX8_jam 22 rfl) rfl (by omega) (by omega) (by omega) rfl (fun h_13l h_13u => ?_)
  refine g_iconst (n := 34) hx (dq tX8_jam 23 rfl) rfl ?_
  refine g_iadd (n := 35) hx (dq tX8_jam 24 rfl) rfl ?_
  refine g_any (fun z_14 h_15 => ?_)
  refine g_iast (n := 36) (q := log.toNat) hx (aX6_11 (b := b + 1) (iX8_1 hb)) (dq tX8_jam 25 rfl) rfl (by omega) (by omega) (by omega) rfl (by omega) (by omega) (fun M_16 m_17e m_17 => ?_)
  have g_18 : Gd M_16 37 (b + 1) := Gd.frame g_12 (fun c j hcj => m_17 c j (by omega))
  refine g_aload_n (n := 37) hx 0 (dq tX8_jam 26 rfl) rfl rfl ?_
  refine g_getR (n := 40) hx glX8_12 (sX8_1 hb) (dq tX8_jam 27 rfl) rfl ?_
  refine g_getR (n := 43) hx glX8_215 (sX6_11 (iX8_1 hb)) (dq tX8_jam 28 rfl) rfl ?_
  refine g_iload_n (n := 44) hx 1 (dq tX8_jam 29 rfl) rfl rfl ?_
  refine g_iald (n := 45) (q := log.toNat) hx (aX6_11 (b := b + 1) (iX8_1 hb)) (dq tX8_jam 30 rfl) rfl (by omega) (by omega) (by omega) rfl (fun h_19l h_19u => ?_)
  refine g_iconst (n := 46) hx (dq tX8_jam 31 rfl) rfl ?_
  refine g_icmp_ge (n := 49) (t := 50) hx (dq tX8_jam 32 rfl) (by decide) rfl (zrI h_19l h_19u (by decide) (by decide)) ⟨by decide, by decide⟩ (fun c_20 => ?_) (fun c_20 => ?_)
  · refine g_aload_n (n := 51) hx 0 (dq tX8_jam 34 rfl) rfl rfl ?_
    refine g_getR (n := 54) hx glX8_12 (sX8_1 hb) (dq tX8_jam 35 rfl) rfl ?_
    refine g_getR (n := 57) hx glX8_215 (sX6_11 (iX8_1 hb)) (dq tX8_jam 36 rfl) rfl ?_
    refine g_iload_n (n := 58) hx 1 (dq tX8_jam 37 rfl) rfl rfl ?_
    refine g_iconst (n := 59) hx (dq tX8_jam 38 rfl) rfl ?_
    refine g_iast (n := 60) (q := log.toNat) hx (aX6_11 (b := b + 1) (iX8_1 hb)) (dq tX8_jam 39 rfl) rfl (by omega) (by omega) (by omega) rfl (by omega) (by omega) (fun M_21 m_22e m_22 => ?_)
    have g_23 : Gd M_21 37 (b + 1) := Gd.frame g_18 (fun c j hcj => m_22 c j (by omega))
    refine g_aload_n (n := 61) hx 0 (dq tX8_jam 40 rfl) rfl rfl ?_
    refine g_getR (n := 64) hx glX8_12 (sX8_1 hb) (dq tX8_jam 41 rfl) rfl ?_
    refine g_getR (n := 67) hx glX8_114 (sX6_13 (iX8_1 hb)) (dq tX8_jam 42 rfl) rfl ?_
    refine g_iload_n (n := 68) hx 1 (dq tX8_jam 43 rfl) rfl rfl ?_
    refine g_iald (n := 69) (q := log.toNat) hx (aX6_13 (b := b + 1) (iX8_1 hb)) (dq tX8_jam 44 rfl) rfl (by omega) (by omega) (by omega) rfl (fun h_24l h_24u => ?_)
    refine g_if_le (n := 72) (t := 95) hx (dq tX8_jam 45 rfl) (by decide) rfl (zrI h_24l h_24u (by decide) (by decide)) (fun c_25 => ?_) (fun c_25 => ?_)
    · exact g_vret hx hr (dq tX8_jam 63 rfl) ⟨(fun u_ v_ huv_ => ((((m_22 u_ v_ (by omega)).trans (m_17 u_ v_ (by omega))).trans (m_11 u_ v_ (by omega))).trans (m_5 u_ v_ (by omega)))), g_23⟩
    · refine g_aload_n (n := 73) hx 0 (dq tX8_jam 46 rfl) rfl rfl ?_
      refine g_getR (n := 76) hx glX8_12 (sX8_1 hb) (dq tX8_jam 47 rfl) rfl ?_
      refine g_getR (n := 79) hx glX8_114 (sX6_13 (iX8_1 hb)) (dq tX8_jam 48 rfl) rfl ?_
      refine g_iload_n (n := 80) hx 1 (dq tX8_jam 49 rfl) rfl rfl ?_
      refine g_dup2 (n := 81) hx (dq tX8_jam 50 rfl) rfl rfl rfl ?_
      refine g_iald (n := 82) (q := log.toNat) hx (aX6_13 (b := b + 1) (iX8_1 hb)) (dq tX8_jam 51 rfl) rfl (by omega) (by omega) (by omega) rfl (fun h_26l h_26u => ?_)
      refine g_iconst (n := 83) hx (dq tX8_jam 52 rfl) rfl ?_
      refine g_isub (n := 84) hx (dq tX8_jam 53 rfl) rfl ?_
      refine g_iast (n := 85) (q := log.toNat) hx (aX6_13 (b := b + 1) (iX8_1 hb)) (dq tX8_jam 54 rfl) rfl (by omega) (by omega) (by omega) rfl (by omega) (by omega) (fun M_27 m_28e m_28 => ?_)
      have g_29 : Gd M_27 37 (b + 1) := Gd.frame g_23 (fun c j hcj => m_28 c j (by omega))
      refine g_aload_n (n := 86) hx 0 (dq tX8_jam 55 rfl) rfl rfl ?_
      refine g_getR (n := 89) hx glX8_25 (sX8_3 hb) (dq tX8_jam 56 rfl) rfl ?_
      refine g_iconst (n := 90) hx (dq tX8_jam 57 rfl) rfl ?_
      refine g_dup2 (n := 91) hx (dq tX8_jam 58 rfl) rfl rfl rfl ?_
      refine g_iald (n := 92) (q := 5) hx (aX8_3 (b := b) hb) (dq tX8_jam 59 rfl) rfl (by decide) (by decide) (by decide) rfl (fun h_30l h_30u => ?_)
      refine g_iconst (n := 93) hx (dq tX8_jam 60 rfl) rfl ?_
      refine g_iadd (n := 94) hx (dq tX8_jam 61 rfl) rfl ?_
      refine g_any (fun z_31 h_32 => ?_)
      refine g_iast (n := 95) (q := 5) hx (aX8_3 (b := b) hb) (dq tX8_jam 62 rfl) rfl (by decide) (by decide) (by decide) rfl (by omega) (by omega) (fun M_33 m_34e m_34 => ?_)
      have g_35 : Gd M_33 37 (b + 1) := Gd.frame g_29 (fun c j hcj => m_34 c j (by omega))
      exact g_vret hx hr (dq tX8_jam 63 rfl) ⟨(fun u_ v_ huv_ => ((((((m_34 u_ v_ (by omega)).trans (m_28 u_ v_ (by omega))).trans (m_22 u_ v_ (by omega))).trans (m_17 u_ v_ (by omega))).trans (m_11 u_ v_ (by omega))).trans (m_5 u_ v_ (by omega)))), g_35⟩
  · exact g_vret hx hr (dq tX8_jam 33 rfl) ⟨(fun u_ v_ huv_ => (((m_17 u_ v_ (by omega)).trans (m_11 u_ v_ (by omega))).trans (m_5 u_ v_ (by omega)))), g_18⟩

abbrev qctX8_sell (M : zM) (b : Nat) (log : Int) (M' : zM) : Prop := (∀ u_ v_, (u_ ≠ b ∨ v_ ≠ 8) ∧ (u_ < b + 3 ∨ b + 11 ≤ u_) ∧ (u_ ≠ b + 11 ∨ v_ ≠ 1) ∧ (u_ < b + 12 ∨ b + 28 ≤ u_) → M' u_ v_ = M u_ v_) ∧ Gd M' 37 (b + 1)
set_option maxHeartbeats 4000000 in
set_option maxRecDepth 100000 in
theorem ctX8_sell (Γ : Gam) (M : zM) (b : Nat) (hb : isX8 b) (log : Int) (hlogl : 0 ≤ log) (hlogu : log ≤ 11) (pre0 : log < M 37 3) (gd0 : Gd M 37 (b + 1)) : CtV Γ yX8_sell cX8_sell 5 none 3 79 [aR Γ b, vI log] M (qctX8_sell M b log) := by
  refine met_v (by decide) (Nat.le_of_ble_eq_true rfl) (fun x hx hr => ?_)
  show G Γ x 5 (QV Γ x (qctX8_sell M b log)) M 0 [(0, aR Γ b), (1, vI log)] []
  refine g_aload_n (n := 1) hx 0 (dq tX8_sell 0 rfl) rfl rfl ?_
  refine g_getR (n := 4) hx glX8_12 (sX8_1 hb) (dq tX8_sell 1 rfl) rfl ?_
  refine g_getR (n := 7) hx glX8_57 (sX6_8 (iX8_1 hb)) (dq tX8_sell 2 rfl) rfl ?_
  refine g_iload_n (n := 8) hx 1 (dq tX8_sell 3 rfl) rfl rfl ?_
  refine g_bipush (n := 10) hx (dq tX8_sell 4 rfl) rfl (by decide) ?_
  refine g_iast (n := 11) (q := log.toNat) hx (aX6_8 (b := b + 1) (iX8_1 hb)) (dq tX8_sell 5 rfl) rfl (by omega) (by omega) (by omega) rfl (by omega) (by omega) (fun M_1 m_2e m_2 => ?_)
  have g_3 := Gd.place gd0 m_2e m_2 (by omega) (by omega) (by omega) (by omega)
  refine g_aload_n (n := 12) hx 0 (dq tX8_sell 6 rfl) rfl rfl ?_
  refine g_iload_n (n := 13) hx 1 (dq tX8_sell 7 rfl) rfl rfl ?_
  have e_4 : M_1 37 1 = M 37 1 := (m_2 37 1 (by omega))
  have e_5 : M_1 37 3 = M 37 3 := (m_2 37 3 (by omega))
  refine g_callVi (n := 16) (As := [vI log]) (rest := []) hx (ctX8_priceOf Γ M_1 b hb log (by omega) (by omega) (by omega) g_3) mlX8_168 (obX8 hb) (dq tX8_sell 8 rfl) rfl (Nat.le_of_ble_eq_true rfl) (Nat.le_of_ble_eq_true rfl) (Nat.le_of_ble_eq_true rfl) rfl (fun z_6 M_7 h_8 p_9 => ?_)
  obtain rfl := p_9
  refine g_istore_n (n := 17) (lv' := [(2, vI z_6), (0, aR Γ b), (1, vI log)]) hx (dq tX8_sell 9 rfl) (by decide) rfl rfl ?_
  refine g_aload_n (n := 18) hx 1 (dq tX8_sell 10 rfl) rfl rfl ?_
  refine g_iload_n (n := 19) hx 2 (dq tX8_sell 11 rfl) rfl rfl ?_
  refine g_callVi (n := 22) (As := [vI log]) (rest := []) hx (ctX8_ownerOf Γ M_1 b hb log (by omega) (by omega) (by omega) g_3) mlX8_150 (obX8 hb) (dq tX8_sell 12 rfl) rfl (Nat.le_of_ble_eq_true rfl) (Nat.le_of_ble_eq_true rfl) (Nat.le_of_ble_eq_true rfl) rfl (fun z_11 M_12 h_13 p_14 => ?_)
  obtain ⟨rfl, h_16, h_17⟩ := p_14
  refine g_istore_n (n := 23) (lv' := [(3, vI z_11), (2, vI z_6), (0, aR Γ b), (1, vI log)]) hx (dq tX8_sell 13 rfl) (by decide) rfl rfl ?_
  refine g_aload_n (n := 24) hx 2 (dq tX8_sell 14 rfl) rfl rfl ?_
  refine g_getR (n := 27) hx glX8_25 (sX8_3 hb) (dq tX8_sell 15 rfl) rfl ?_
  refine g_iconst (n := 28) hx (dq tX8_sell 16 rfl) rfl ?_
  refine g_dup2 (n := 29) hx (dq tX8_sell 17 rfl) rfl rfl rfl ?_
  refine g_iald (n := 30) (q := 1) hx (aX8_3 (b := b) hb) (dq tX8_sell 18 rfl) rfl (by decide) (by decide) (by decide) rfl (fun h_18l h_18u => ?_)
  refine g_iconst (n := 31) hx (dq tX8_sell 19 rfl) rfl ?_
  refine g_iadd (n := 32) hx (dq tX8_sell 20 rfl) rfl ?_
  refine g_any (fun z_19 h_20 => ?_)
  refine g_iast (n := 33) (q := 1) hx (aX8_3 (b := b) hb) (dq tX8_sell 21 rfl) rfl (by decide) (by decide) (by decide) rfl (by omega) (by omega) (fun M_21 m_22e m_22 => ?_)
  have g_23 : Gd M_21 37 (b + 1) := Gd.frame g_3 (fun c j hcj => m_22 c j (by omega))
  refine g_aload_n (n := 34) hx 2 (dq tX8_sell 22 rfl) rfl rfl ?_
  refine g_getR (n := 37) hx glX8_25 (sX8_3 hb) (dq tX8_sell 23 rfl) rfl ?_
  refine g_iconst (n := 38) hx (dq tX8_sell 24 rfl) rfl ?_
  refine g_dup2 (n := 39) hx (dq tX8_sell 25 rfl) rfl rfl rfl ?_
  refine g_iald (n := 40) (q := 2) hx (aX8_3 (b := b) hb) (dq tX8_sell 26 rfl) rfl (by decide) (by decide) (by decide) rfl (fun h_24l h_24u => ?_)
  refine g_iload_n (n := 41) hx 1 (dq tX8_sell 27 rfl) rfl rfl ?_
  refine g_iadd (n := 42) hx (dq tX8_sell 28 rfl) rfl ?_
  refine g_any (fun z_25 h_26 => ?_)
  refine g_iast (n := 43) (q := 2) hx (aX8_3 (b := b) hb) (dq tX8_sell 29 rfl) rfl (by decide) (by decide) (by decide) rfl (by omega) (by omega) (fun M_27 m_28e m_28 => ?_)
  have g_29 : Gd M_27 37 (b + 1) := Gd.frame g_23 (fun c j hcj => m_28 c j (by omega))
  refine g_iload_n (n := 44) hx 0 (dq tX8_sell 30 rfl) rfl rfl ?_
  refine g_iconst (n := 45) hx (dq tX8_sell 31 rfl) rfl ?_
  refine g_icmp_eq (n := 48) (t := 64) hx (dq tX8_sell 32 rfl) (by decide) rfl h_13 ⟨by decide, by decide⟩ (fun c_30 => ?_) (fun c_30 => ?_)
  · refine g_aload_n (n := 65) hx 2 (dq tX8_sell 43 rfl) rfl rfl ?_
    refine g_getR (n := 68) hx glX8_39 (sX8_0 hb) (dq tX8_sell 44 rfl) rfl ?_
    refine g_getI (n := 71) hx glX8_93 (sX2_1 (by decide)) (dq tX8_sell 45 rfl) rfl (fun h_31l h_31u => ?_)
    have e_32 : M_27 37 1 = M_1 37 1 := ((m_28 37 1 (by omega))).trans (m_22 37 1 (by omega))
    refine g_if_le (n := 74) (t := 138) hx (dq tX8_sell 46 rfl) (by decide) rfl (zrI h_31l h_31u (by decide) (by decide)) (fun c_33 => ?_) (fun c_33 => ?_)
    · exact g_vret hx hr (dq tX8_sell 80 rfl) ⟨(fun u_ v_ huv_ => (((m_28 u_ v_ (by omega)).trans (m_22 u_ v_ (by omega))).trans (m_2 u_ v_ (by omega)))), g_29⟩
    · refine g_iconst (n := 75) hx (dq tX8_sell 47 rfl) rfl ?_
      refine g_istore (n := 77) (lv' := [(4, vI 0), (3, vI z_11), (2, vI z_6), (0, aR Γ b), (1, vI log)]) hx (dq tX8_sell 48 rfl) (by decide) rfl rfl ?_
      have L_36 : ∀ (n_ : Nat) (i_34 : Int) (M_35 : zM), (0 ≤ i_34) → (i_34 ≤ 6) → (∀ u_ v_, u_ ≠ b + 11 + 1 → M_35 u_ v_ = M_27 u_ v_) → (Gd M_35 37 (b + 1)) → ((6 - i_34).toNat = n_) → G Γ x 5 (QV Γ x (qctX8_sell M b log)) M_35 77 [(4, vI i_34), (3, vI z_11), (2, vI z_6), (0, aR Γ b), (1, vI log)] [] := by
        intro n_
        induction n_ using Nat.strongRecOn with
        | _ n_ ih_37 =>
          intro i_34 M_35 h_41 h_42 f_38 g_39 hm_40
          refine g_iload (n := 79) hx 0 (dq tX8_sell 49 rfl) rfl rfl ?_
          refine g_aload_n (n := 80) hx 3 (dq tX8_sell 50 rfl) rfl rfl ?_
          refine g_getR (n := 83) hx glX8_39 (sX8_0 hb) (dq tX8_sell 51 rfl) rfl ?_
          refine g_getI (n := 86) hx glX8_93 (sX2_1 (by decide)) (dq tX8_sell 52 rfl) rfl (fun h_43l h_43u => ?_)
          have e_44 : M_35 37 1 = M_27 37 1 := (f_38 37 1 (by omega))
          refine g_icmp_ge (n := 89) (t := 117) hx (dq tX8_sell 53 rfl) (by decide) rfl ⟨by omega, by omega⟩ (zrI h_43l h_43u (by decide) (by decide)) (fun c_45 => ?_) (fun c_45 => ?_)
          · refine g_aload_n (n := 118) hx 3 (dq tX8_sell 69 rfl) rfl rfl ?_
            refine g_getR (n := 121) hx glX8_21 (sX8_2 hb) (dq tX8_sell 70 rfl) rfl ?_
            refine g_dup (n := 122) hx (dq tX8_sell 71 rfl) rfl rfl ?_
            refine g_getI (n := 125) hx glX8_237 (sX0_1 (iX8_2 hb)) (dq tX8_sell 72 rfl) rfl (fun h_46l h_46u => ?_)
            refine g_iload_n (n := 126) hx 2 (dq tX8_sell 73 rfl) rfl rfl ?_
            refine g_aload_n (n := 127) hx 3 (dq tX8_sell 74 rfl) rfl rfl ?_
            refine g_getR (n := 130) hx glX8_39 (sX8_0 hb) (dq tX8_sell 75 rfl) rfl ?_
            refine g_getI (n := 133) hx glX8_93 (sX2_1 (by decide)) (dq tX8_sell 76 rfl) rfl (fun h_47l h_47u => ?_)
            refine g_irem (n := 134) hx (dq tX8_sell 77 rfl) rfl h_8 (zrI h_47l h_47u (by decide) (by decide)) (by omega) (fun z_48 h_49 h_50 => ?_)
            clear h_50
            refine g_iadd (n := 135) hx (dq tX8_sell 78 rfl) rfl ?_
            refine g_any (fun z_51 h_52 => ?_)
            refine g_putI (n := 138) hx plX8_237 (sX0_1 (iX8_2 hb)) (dq tX8_sell 79 rfl) rfl (by omega) (by omega) (fun M_53 m_54e m_54 => ?_)
            have g_55 : Gd M_53 37 (b + 1) := Gd.frame g_39 (fun c j hcj => m_54 c j (by omega))
            exact g_vret hx hr (dq tX8_sell 80 rfl) ⟨(fun u_ v_ huv_ => (((((m_54 u_ v_ (by omega)).trans (f_38 u_ v_ (by omega))).trans (m_28 u_ v_ (by omega))).trans (m_22 u_ v_ (by omega))).trans (m_2 u_ v_ (by omega)))), g_55⟩
          · refine g_aload_n (n := 90) hx 3 (dq tX8_sell 54 rfl) rfl rfl ?_
            refine g_getR (n := 93) hx glX8_21 (sX8_2 hb) (dq tX8_sell 55 rfl) rfl ?_
            refine g_getR (n := 96) hx glX8_234 (sX0_2 (iX8_2 hb)) (dq tX8_sell 56 rfl) rfl ?_
            refine g_iload (n := 98) hx 0 (dq tX8_sell 57 rfl) rfl rfl ?_
            refine g_dup2 (n := 99) hx (dq tX8_sell 58 rfl) rfl rfl rfl ?_
            refine g_iald (n := 100) (q := i_34.toNat) hx (aX0_2 (b := b + 11) (iX8_2 hb)) (dq tX8_sell 59 rfl) rfl (by omega) (by omega) (by omega) rfl (fun h_56l h_56u => ?_)
            refine g_iload_n (n := 101) hx 2 (dq tX8_sell 60 rfl) rfl rfl ?_
            refine g_aload_n (n := 102) hx 3 (dq tX8_sell 61 rfl) rfl rfl ?_
            refine g_getR (n := 105) hx glX8_39 (sX8_0 hb) (dq tX8_sell 62 rfl) rfl ?_
            refine g_getI (n := 108) hx glX8_93 (sX2_1 (by decide)) (dq tX8_sell 63 rfl) rfl (fun h_57l h_57u => ?_)
            refine g_idiv (n := 109) hx (dq tX8_sell 64 rfl) rfl h_8 (zrI h_57l h_57u (by decide) (by decide)) (by omega) (fun z_58 h_59 h_60 => ?_)
            clear h_60
            refine g_iadd (n := 110) hx (dq tX8_sell 65 rfl) rfl ?_
            refine g_any (fun z_61 h_62 => ?_)
            refine g_iast (n := 111) (q := i_34.toNat) hx (aX0_2 (b := b + 11) (iX8_2 hb)) (dq tX8_sell 66 rfl) rfl (by omega) (by omega) (by omega) rfl (by omega) (by omega) (fun M_63 m_64e m_64 => ?_)
            have g_65 : Gd M_63 37 (b + 1) := Gd.frame g_39 (fun c j hcj => m_64 c j (by omega))
            refine g_iinc (n := 114) (lv' := [(4, vI (i_34 + 1)), (3, vI z_11), (2, vI z_6), (0, aR Γ b), (1, vI log)]) hx 0 (dq tX8_sell 67 rfl) rfl (by decide) rfl rfl ?_
            refine g_goto (n := 77) hx (dq tX8_sell 68 rfl) (by decide) ?_
            exact ih_37 _ (by omega) (i_34 + 1) M_63 (by omega) (by omega) (fun u_ v_ huv_ => ((m_64 u_ v_ (by omega)).trans (f_38 u_ v_ (by omega)))) g_65 rfl
      exact L_36 _ 0 M_27 (by omega) (by omega) (fun _ _ _ => rfl) g_29 rfl
  · refine g_aload_n (n := 49) hx 2 (dq tX8_sell 33 rfl) rfl rfl ?_
    refine g_getR (n := 52) hx glX8_21 (sX8_2 hb) (dq tX8_sell 34 rfl) rfl ?_
    refine g_getR (n := 55) hx glX8_234 (sX0_2 (iX8_2 hb)) (dq tX8_sell 35 rfl) rfl ?_
    refine g_iload_n (n := 56) hx 0 (dq tX8_sell 36 rfl) rfl rfl ?_
    refine g_dup2 (n := 57) hx (dq tX8_sell 37 rfl) rfl rfl rfl ?_
    refine g_iald (n := 58) (q := z_11.toNat) hx (aX0_2 (b := b + 11) (iX8_2 hb)) (dq tX8_sell 38 rfl) rfl (by omega) (by omega) (by omega) rfl (fun h_66l h_66u => ?_)
    refine g_iload_n (n := 59) hx 1 (dq tX8_sell 39 rfl) rfl rfl ?_
    refine g_iadd (n := 60) hx (dq tX8_sell 40 rfl) rfl ?_
    refine g_any (fun z_67 h_68 => ?_)
    refine g_iast (n := 61) (q := z_11.toNat) hx (aX0_2 (b := b + 11) (iX8_2 hb)) (dq tX8_sell 41 rfl) rfl (by omega) (by omega) (by omega) rfl (by omega) (by omega) (fun M_69 m_70e m_70 => ?_)
    have g_71 : Gd M_69 37 (b + 1) := Gd.frame g_29 (fun c j hcj => m_70 c j (by omega))
    refine g_goto (n := 138) hx (dq tX8_sell 42 rfl) (by decide) ?_
    exact g_vret hx hr (dq tX8_sell 80 rfl) ⟨(fun u_ v_ huv_ => ((((m_70 u_ v_ (by omega)).trans (m_28 u_ v_ (by omega))).trans (m_22 u_ v_ (by omega))).trans (m_2 u_ v_ (by omega)))), g_71⟩

abbrev qctX8_take (M : zM) (b : Nat) (log : Int) (village : Int) (M' : zM) : Prop := (∀ u_ v_, (u_ ≠ b ∨ v_ ≠ 8) ∧ (u_ < b + 3 ∨ b + 11 ≤ u_) ∧ (u_ ≠ b + 11 ∨ v_ ≠ 1) ∧ (u_ < b + 12 ∨ b + 28 ≤ u_) → M' u_ v_ = M u_ v_) ∧ Gd M' 37 (b + 1)
set_option maxHeartbeats 4000000 in
set_option maxRecDepth 100000 in
theorem ctX8_take (Γ : Gam) (M : zM) (b : Nat) (hb : isX8 b) (log : Int) (hlogl : 0 ≤ log) (hlogu : log ≤ 11) (village : Int) (hvillagel : 0 ≤ village) (hvillageu : village ≤ 5) (pre0 : log < M 37 3) (pre1 : village < M 37 1) (gd0 : Gd M 37 (b + 1)) : CtV Γ yX8_take cX8_take 3 none 3 79 [aR Γ b, vI log, vI village] M (qctX8_take M b log village) := by
  refine met_v (by decide) (Nat.le_of_ble_eq_true rfl) (fun x hx hr => ?_)
  show G Γ x 3 (QV Γ x (qctX8_take M b log village)) M 0 [(0, aR Γ b), (1, vI log), (2, vI village)] []
  refine g_aload_n (n := 1) hx 0 (dq tX8_take 0 rfl) rfl rfl ?_
  refine g_getR (n := 4) hx glX8_21 (sX8_2 hb) (dq tX8_take 1 rfl) rfl ?_
  refine g_iload_n (n := 5) hx 2 (dq tX8_take 2 rfl) rfl rfl ?_
  refine g_aload_n (n := 6) hx 0 (dq tX8_take 3 rfl) rfl rfl ?_
  refine g_iload_n (n := 7) hx 1 (dq tX8_take 4 rfl) rfl rfl ?_
  refine g_callVi (n := 10) (As := [vI log]) (rest := [vI village, aR Γ (b + 11)]) hx (ctX8_ownerOf Γ M b hb log (by omega) (by omega) (by omega) gd0) mlX8_150 (obX8 hb) (dq tX8_take 5 rfl) rfl (Nat.le_of_ble_eq_true rfl) (Nat.le_of_ble_eq_true rfl) (Nat.le_of_ble_eq_true rfl) rfl (fun z_1 M_2 h_3 p_4 => ?_)
  obtain ⟨rfl, h_6, h_7⟩ := p_4
  refine g_aload_n (n := 11) hx 0 (dq tX8_take 6 rfl) rfl rfl ?_
  refine g_iload_n (n := 12) hx 1 (dq tX8_take 7 rfl) rfl rfl ?_
  refine g_callVi (n := 15) (As := [vI log]) (rest := [vI z_1, vI village, aR Γ (b + 11)]) hx (ctX8_priceOf Γ M b hb log (by omega) (by omega) (by omega) gd0) mlX8_168 (obX8 hb) (dq tX8_take 8 rfl) rfl (Nat.le_of_ble_eq_true rfl) (Nat.le_of_ble_eq_true rfl) (Nat.le_of_ble_eq_true rfl) rfl (fun z_8 M_9 h_10 p_11 => ?_)
  obtain rfl := p_11
  refine g_callVv (n := 18) (As := [vI village, vI z_1, vI z_8]) (rest := []) hx (ctX0_owe Γ M (b + 11) (iX8_2 hb) village (by omega) (by omega) z_1 (by omega) (by omega) z_8 (by omega) (by omega)) mlX8_243 (obX0 (iX8_2 hb)) (dq tX8_take 9 rfl) rfl (Nat.le_of_ble_eq_true rfl) (Nat.le_of_ble_eq_true rfl) (Nat.le_of_ble_eq_true rfl) rfl (fun M_14 p_16 => ?_)
  have f_17 := p_16
  have g_18 : Gd M_14 37 (b + 1) := Gd.frame gd0 (fun c j hcj => f_17 c j (by omega))
  refine g_aload_n (n := 19) hx 0 (dq tX8_take 10 rfl) rfl rfl ?_
  refine g_getR (n := 22) hx glX8_12 (sX8_1 hb) (dq tX8_take 11 rfl) rfl ?_
  refine g_getR (n := 25) hx glX8_57 (sX6_8 (iX8_1 hb)) (dq tX8_take 12 rfl) rfl ?_
  refine g_iload_n (n := 26) hx 1 (dq tX8_take 13 rfl) rfl rfl ?_
  refine g_bipush (n := 28) hx (dq tX8_take 14 rfl) rfl (by decide) ?_
  refine g_iload_n (n := 29) hx 2 (dq tX8_take 15 rfl) rfl rfl ?_
  refine g_iadd (n := 30) hx (dq tX8_take 16 rfl) rfl ?_
  have e_19 : M_14 37 1 = M 37 1 := (f_17 37 1 (by omega))
  have e_20 : M_14 37 3 = M 37 3 := (f_17 37 3 (by omega))
  refine g_iast (n := 31) (q := log.toNat) hx (aX6_8 (b := b + 1) (iX8_1 hb)) (dq tX8_take 17 rfl) rfl (by omega) (by omega) (by omega) rfl (by omega) (by omega) (fun M_21 m_22e m_22 => ?_)
  have g_23 := Gd.place g_18 m_22e m_22 (by omega) (by omega) (by omega) (by omega)
  refine g_aload_n (n := 32) hx 0 (dq tX8_take 18 rfl) rfl rfl ?_
  refine g_getR (n := 35) hx glX8_12 (sX8_1 hb) (dq tX8_take 19 rfl) rfl ?_
  refine g_iload_n (n := 36) hx 1 (dq tX8_take 20 rfl) rfl rfl ?_
  refine g_iload_n (n := 37) hx 2 (dq tX8_take 21 rfl) rfl rfl ?_
  have e_24 : M_21 37 1 = M_14 37 1 := (m_22 37 1 (by omega))
  have e_25 : M_21 37 3 = M_14 37 3 := (m_22 37 3 (by omega))
  refine g_callVv (n := 40) (As := [vI log, vI village]) (rest := []) hx (ctX6_notchBehind Γ M_21 (b + 1) (iX8_1 hb) log (by omega) (by omega) village (by omega) (by omega)) mlX8_247 (obX6 (iX8_1 hb)) (dq tX8_take 22 rfl) rfl (Nat.le_of_ble_eq_true rfl) (Nat.le_of_ble_eq_true rfl) (Nat.le_of_ble_eq_true rfl) rfl (fun M_27 p_29 => ?_)
  have f_30 := p_29
  have g_31 : Gd M_27 37 (b + 1) := Gd.frame g_23 (fun c j hcj => f_30 c j (by omega))
  refine g_aload_n (n := 41) hx 0 (dq tX8_take 23 rfl) rfl rfl ?_
  refine g_dup (n := 42) hx (dq tX8_take 24 rfl) rfl rfl ?_
  refine g_getI (n := 45) hx glX8_205 (sX8_8 hb) (dq tX8_take 25 rfl) rfl (fun h_32l h_32u => ?_)
  refine g_iconst (n := 46) hx (dq tX8_take 26 rfl) rfl ?_
  refine g_iload_n (n := 47) hx 1 (dq tX8_take 27 rfl) rfl rfl ?_
  refine g_ishl1 (n := 48) hx (dq tX8_take 28 rfl) rfl (by omega) (by omega) ?_
  refine g_nam (fun z_33 h_34 => ?_)
  have h_351 := pw1 (k := 11) (by omega) (by omega) h_34
  obtain ⟨h_352, h_353⟩ := h_351
  refine g_ior (n := 49) hx (dq tX8_take 29 rfl) rfl (fun z_36 h_37 h_38 => ?_)
  clear h_38
  refine g_putI (n := 52) hx plX8_205 (sX8_8 hb) (dq tX8_take 30 rfl) rfl (by omega) (by omega) (fun M_39 m_40e m_40 => ?_)
  have g_41 : Gd M_39 37 (b + 1) := Gd.frame g_31 (fun c j hcj => m_40 c j (by omega))
  refine g_aload_n (n := 53) hx 0 (dq tX8_take 31 rfl) rfl rfl ?_
  refine g_getR (n := 56) hx glX8_25 (sX8_3 hb) (dq tX8_take 32 rfl) rfl ?_
  refine g_iconst (n := 57) hx (dq tX8_take 33 rfl) rfl ?_
  refine g_dup2 (n := 58) hx (dq tX8_take 34 rfl) rfl rfl rfl ?_
  refine g_iald (n := 59) (q := 3) hx (aX8_3 (b := b) hb) (dq tX8_take 35 rfl) rfl (by decide) (by decide) (by decide) rfl (fun h_42l h_42u => ?_)
  refine g_iconst (n := 60) hx (dq tX8_take 36 rfl) rfl ?_
  refine g_iadd (n := 61) hx (dq tX8_take 37 rfl) rfl ?_
  refine g_any (fun z_43 h_44 => ?_)
  refine g_iast (n := 62) (q := 3) hx (aX8_3 (b := b) hb) (dq tX8_take 38 rfl) rfl (by decide) (by decide) (by decide) rfl (by omega) (by omega) (fun M_45 m_46e m_46 => ?_)
  have g_47 : Gd M_45 37 (b + 1) := Gd.frame g_41 (fun c j hcj => m_46 c j (by omega))
  exact g_vret hx hr (dq tX8_take 39 rfl) ⟨(fun u_ v_ huv_ => (((((m_46 u_ v_ (by omega)).trans (m_40 u_ v_ (by omega))).trans (f_30 u_ v_ (by omega))).trans (m_22 u_ v_ (by omega))).trans (f_17 u_ v_ (by omega)))), g_47⟩

abbrev qctX8_passLog (M : zM) (b : Nat) (log : Int) (M' : zM) : Prop := (∀ u_ v_, (u_ ≠ b ∨ v_ ≠ 8) ∧ (u_ < b + 3 ∨ b + 11 ≤ u_) ∧ (u_ ≠ b + 11 ∨ v_ ≠ 1) ∧ (u_ < b + 12 ∨ b + 28 ≤ u_) → M' u_ v_ = M u_ v_) ∧ Gd M' 37 (b + 1)
set_option maxHeartbeats 4000000 in
set_option maxRecDepth 100000 in
theorem ctX8_passLog (Γ : Gam) (M : zM) (b : Nat) (hb : isX8 b) (log : Int) (hlogl : 0 ≤ log) (hlogu : log ≤ 11) (pre0 : log < M 37 3) (gd0 : Gd M 37 (b + 1)) : CtV Γ yX8_passLog cX8_passLog 3 none 4 106 [aR Γ b, vI log] M (qctX8_passLog M b log) := by
  refine met_v (by decide) (Nat.le_of_ble_eq_true rfl) (fun x hx hr => ?_)
  show G Γ x 3 (QV Γ x (qctX8_passLog M b log)) M 0 [(0, aR Γ b), (1, vI log)] []
  refine g_aload_n (n := 1) hx 0 (dq tX8_passLog 0 rfl) rfl rfl ?_
  refine g_getR (n := 4) hx glX8_12 (sX8_1 hb) (dq tX8_passLog 1 rfl) rfl ?_
  refine g_iload_n (n := 5) hx 1 (dq tX8_passLog 2 rfl) rfl rfl ?_
  refine g_callVi (n := 8) (As := [vI log]) (rest := []) hx (ctX6_isInWater Γ M (b + 1) (iX8_1 hb) log (by omega) (by omega)) mlX8_187 (obX6 (iX8_1 hb)) (dq tX8_passLog 3 rfl) rfl (Nat.le_of_ble_eq_true rfl) (Nat.le_of_ble_eq_true rfl) (Nat.le_of_ble_eq_true rfl) rfl (fun z_1 M_2 h_3 p_4 => ?_)
  obtain ⟨rfl, b_6⟩ := p_4
  refine g_if_ne (n := 11) (t := 22) hx (dq tX8_passLog 4 rfl) (by decide) rfl h_3 (fun c_8 => ?_) (fun c_8 => ?_)
  · have b_6 := b_6.resolve_left c_8
    obtain ⟨-, h_7⟩ := b_6
    refine g_aload_n (n := 23) hx 0 (dq tX8_passLog 12 rfl) rfl rfl ?_
    refine g_getR (n := 26) hx glX8_12 (sX8_1 hb) (dq tX8_passLog 13 rfl) rfl ?_
    refine g_getR (n := 29) hx glX8_57 (sX6_8 (iX8_1 hb)) (dq tX8_passLog 14 rfl) rfl ?_
    refine g_iload_n (n := 30) hx 1 (dq tX8_passLog 15 rfl) rfl rfl ?_
    refine g_iald (n := 31) (q := log.toNat) hx (aX6_8 (b := b + 1) (iX8_1 hb)) (dq tX8_passLog 16 rfl) rfl (by omega) (by omega) (by omega) rfl (fun h_9l h_9u => ?_)
    refine g_iconst (n := 32) hx (dq tX8_passLog 17 rfl) rfl ?_
    refine g_iadd (n := 33) hx (dq tX8_passLog 18 rfl) rfl ?_
    refine g_istore_n (n := 34) (lv' := [(2, vI ((M (b + 1 + 3) log.toNat) + 1)), (0, aR Γ b), (1, vI log)]) hx (dq tX8_passLog 19 rfl) (by decide) rfl rfl ?_
    refine g_aload_n (n := 35) hx 1 (dq tX8_passLog 20 rfl) rfl rfl ?_
    refine g_aload_n (n := 36) hx 1 (dq tX8_passLog 21 rfl) rfl rfl ?_
    refine g_getR (n := 39) hx glX8_12 (sX8_1 hb) (dq tX8_passLog 22 rfl) rfl ?_
    refine g_getI (n := 42) hx glX8_218 (sX6_2 (iX8_1 hb)) (dq tX8_passLog 23 rfl) rfl (fun h_10l h_10u => ?_)
    refine g_iconst (n := 43) hx (dq tX8_passLog 24 rfl) rfl ?_
    refine g_iload_n (n := 44) hx 2 (dq tX8_passLog 25 rfl) rfl rfl ?_
    refine g_iconst (n := 45) hx (dq tX8_passLog 26 rfl) rfl ?_
    refine g_callVi (n := 48) (As := [vI (M (b + 1) 2), vI 0, vI log, vI (-1)]) (rest := []) hx (ctX8_asks Γ M b hb (M (b + 1) 2) (by omega) (by omega) 0 (by decide) (by decide) log (by omega) (by omega) (-1) (by decide) (by decide) (by omega) (by omega) gd0) mlX8_221 (obX8 hb) (dq tX8_passLog 27 rfl) rfl (Nat.le_of_ble_eq_true rfl) (Nat.le_of_ble_eq_true rfl) (Nat.le_of_ble_eq_true rfl) rfl (fun z_11 M_12 h_13 p_14 => ?_)
    obtain ⟨rfl, b_16⟩ := p_14
    refine g_if_ne (n := 51) (t := 71) hx (dq tX8_passLog 28 rfl) (by decide) rfl h_13 (fun c_17 => ?_) (fun c_17 => ?_)
    · have b_16 := b_16.resolve_left c_17
      obtain ⟨-⟩ := b_16
      refine g_aload_n (n := 72) hx 1 (dq tX8_passLog 39 rfl) rfl rfl ?_
      refine g_iload_n (n := 73) hx 2 (dq tX8_passLog 40 rfl) rfl rfl ?_
      refine g_callVv (n := 76) (As := [vI log]) (rest := []) hx (ctX8_jam Γ M b hb log (by omega) (by omega) gd0) mlX8_225 (obX8 hb) (dq tX8_passLog 41 rfl) rfl (Nat.le_of_ble_eq_true rfl) (Nat.le_of_ble_eq_true rfl) (Nat.le_of_ble_eq_true rfl) rfl (fun M_19 p_21 => ?_)
      obtain ⟨f_22, g_23⟩ := p_21
      exact g_vret hx hr (dq tX8_passLog 42 rfl) ⟨(fun u_ v_ huv_ => (f_22 u_ v_ (by omega))), g_23⟩
    · clear b_16
      refine g_iload_n (n := 52) hx 0 (dq tX8_passLog 29 rfl) rfl rfl ?_
      refine g_aload_n (n := 53) hx 1 (dq tX8_passLog 30 rfl) rfl rfl ?_
      refine g_getR (n := 56) hx glX8_39 (sX8_0 hb) (dq tX8_passLog 31 rfl) rfl ?_
      refine g_getI (n := 59) hx glX8_65 (sX2_0 (by decide)) (dq tX8_passLog 32 rfl) rfl (fun h_25l h_25u => ?_)
      refine g_icmp_ge (n := 62) (t := 77) hx (dq tX8_passLog 33 rfl) (by decide) rfl ⟨by omega, by omega⟩ (zrI h_25l h_25u (by decide) (by decide)) (fun c_26 => ?_) (fun c_26 => ?_)
      · refine g_aload_n (n := 78) hx 1 (dq tX8_passLog 43 rfl) rfl rfl ?_
        refine g_getR (n := 81) hx glX8_12 (sX8_1 hb) (dq tX8_passLog 44 rfl) rfl ?_
        refine g_getR (n := 84) hx glX8_215 (sX6_11 (iX8_1 hb)) (dq tX8_passLog 45 rfl) rfl ?_
        refine g_iload_n (n := 85) hx 2 (dq tX8_passLog 46 rfl) rfl rfl ?_
        refine g_iconst (n := 86) hx (dq tX8_passLog 47 rfl) rfl ?_
        refine g_iast (n := 87) (q := log.toNat) hx (aX6_11 (b := b + 1) (iX8_1 hb)) (dq tX8_passLog 48 rfl) rfl (by omega) (by omega) (by omega) rfl (by omega) (by omega) (fun M_27 m_28e m_28 => ?_)
        have g_29 : Gd M_27 37 (b + 1) := Gd.frame gd0 (fun c j hcj => m_28 c j (by omega))
        refine g_iload_n (n := 88) hx 0 (dq tX8_passLog 49 rfl) rfl rfl ?_
        refine g_aload_n (n := 89) hx 1 (dq tX8_passLog 50 rfl) rfl rfl ?_
        refine g_getR (n := 92) hx glX8_39 (sX8_0 hb) (dq tX8_passLog 51 rfl) rfl ?_
        refine g_getI (n := 95) hx glX8_65 (sX2_0 (by decide)) (dq tX8_passLog 52 rfl) rfl (fun h_30l h_30u => ?_)
        have e_31 : M_27 37 0 = M 37 0 := (m_28 37 0 (by omega))
        refine g_icmp_ge (n := 98) (t := 111) hx (dq tX8_passLog 53 rfl) (by decide) rfl ⟨by omega, by omega⟩ (zrI h_30l h_30u (by decide) (by decide)) (fun c_32 => ?_) (fun c_32 => ?_)
        · refine g_aload_n (n := 112) hx 1 (dq tX8_passLog 61 rfl) rfl rfl ?_
          refine g_iload_n (n := 113) hx 2 (dq tX8_passLog 62 rfl) rfl rfl ?_
          have e_33 : M_27 37 1 = M 37 1 := (m_28 37 1 (by omega))
          have e_34 : M_27 37 3 = M 37 3 := (m_28 37 3 (by omega))
          refine g_callVv (n := 116) (As := [vI log]) (rest := []) hx (ctX8_sell Γ M_27 b hb log (by omega) (by omega) (by omega) g_29) mlX8_228 (obX8 hb) (dq tX8_passLog 63 rfl) rfl (Nat.le_of_ble_eq_true rfl) (Nat.le_of_ble_eq_true rfl) (Nat.le_of_ble_eq_true rfl) rfl (fun M_36 p_38 => ?_)
          obtain ⟨f_39, g_40⟩ := p_38
          exact g_vret hx hr (dq tX8_passLog 64 rfl) ⟨(fun u_ v_ huv_ => ((f_39 u_ v_ (by omega)).trans (m_28 u_ v_ (by omega)))), g_40⟩
        · refine g_aload_n (n := 99) hx 1 (dq tX8_passLog 54 rfl) rfl rfl ?_
          refine g_getR (n := 102) hx glX8_12 (sX8_1 hb) (dq tX8_passLog 55 rfl) rfl ?_
          refine g_getR (n := 105) hx glX8_57 (sX6_8 (iX8_1 hb)) (dq tX8_passLog 56 rfl) rfl ?_
          refine g_iload_n (n := 106) hx 2 (dq tX8_passLog 57 rfl) rfl rfl ?_
          refine g_iload_n (n := 107) hx 0 (dq tX8_passLog 58 rfl) rfl rfl ?_
          have e_42 : M_27 37 1 = M 37 1 := (m_28 37 1 (by omega))
          have e_43 : M_27 37 3 = M 37 3 := (m_28 37 3 (by omega))
          refine g_iast (n := 108) (q := log.toNat) hx (aX6_8 (b := b + 1) (iX8_1 hb)) (dq tX8_passLog 59 rfl) rfl (by omega) (by omega) (by omega) rfl (by omega) (by omega) (fun M_44 m_45e m_45 => ?_)
          have g_46 := Gd.place g_29 m_45e m_45 (by omega) (by omega) (by omega) (by omega)
          refine g_goto (n := 116) hx (dq tX8_passLog 60 rfl) (by decide) ?_
          exact g_vret hx hr (dq tX8_passLog 64 rfl) ⟨(fun u_ v_ huv_ => ((m_45 u_ v_ (by omega)).trans (m_28 u_ v_ (by omega)))), g_46⟩
      · refine g_aload_n (n := 63) hx 1 (dq tX8_passLog 34 rfl) rfl rfl ?_
        refine g_iload_n (n := 64) hx 0 (dq tX8_passLog 35 rfl) rfl rfl ?_
        refine g_callVi (n := 67) (As := [vI ((M (b + 1 + 3) log.toNat) + 1)]) (rest := []) hx (ctX8_roomAt Γ M b hb ((M (b + 1 + 3) log.toNat) + 1) (by omega) (by omega)) mlX8_184 (obX8 hb) (dq tX8_passLog 36 rfl) rfl (Nat.le_of_ble_eq_true rfl) (Nat.le_of_ble_eq_true rfl) (Nat.le_of_ble_eq_true rfl) rfl (fun z_47 M_48 h_49 p_50 => ?_)
        obtain rfl := p_50
        refine g_iconst (n := 68) hx (dq tX8_passLog 37 rfl) rfl ?_
        refine g_icmp_ge (n := 71) (t := 77) hx (dq tX8_passLog 38 rfl) (by decide) rfl h_49 ⟨by decide, by decide⟩ (fun c_52 => ?_) (fun c_52 => ?_)
        · refine g_aload_n (n := 78) hx 1 (dq tX8_passLog 43 rfl) rfl rfl ?_
          refine g_getR (n := 81) hx glX8_12 (sX8_1 hb) (dq tX8_passLog 44 rfl) rfl ?_
          refine g_getR (n := 84) hx glX8_215 (sX6_11 (iX8_1 hb)) (dq tX8_passLog 45 rfl) rfl ?_
          refine g_iload_n (n := 85) hx 2 (dq tX8_passLog 46 rfl) rfl rfl ?_
          refine g_iconst (n := 86) hx (dq tX8_passLog 47 rfl) rfl ?_
          refine g_iast (n := 87) (q := log.toNat) hx (aX6_11 (b := b + 1) (iX8_1 hb)) (dq tX8_passLog 48 rfl) rfl (by omega) (by omega) (by omega) rfl (by omega) (by omega) (fun M_53 m_54e m_54 => ?_)
          have g_55 : Gd M_53 37 (b + 1) := Gd.frame gd0 (fun c j hcj => m_54 c j (by omega))
          refine g_iload_n (n := 88) hx 0 (dq tX8_passLog 49 rfl) rfl rfl ?_
          refine g_aload_n (n := 89) hx 1 (dq tX8_passLog 50 rfl) rfl rfl ?_
          refine g_getR (n := 92) hx glX8_39 (sX8_0 hb) (dq tX8_passLog 51 rfl) rfl ?_
          refine g_getI (n := 95) hx glX8_65 (sX2_0 (by decide)) (dq tX8_passLog 52 rfl) rfl (fun h_56l h_56u => ?_)
          have e_57 : M_53 37 0 = M 37 0 := (m_54 37 0 (by omega))
          refine g_icmp_ge (n := 98) (t := 111) hx (dq tX8_passLog 53 rfl) (by decide) rfl ⟨by omega, by omega⟩ (zrI h_56l h_56u (by decide) (by decide)) (fun c_58 => ?_) (fun c_58 => ?_)
          · refine g_aload_n (n := 112) hx 1 (dq tX8_passLog 61 rfl) rfl rfl ?_
            refine g_iload_n (n := 113) hx 2 (dq tX8_passLog 62 rfl) rfl rfl ?_
            have e_59 : M_53 37 1 = M 37 1 := (m_54 37 1 (by omega))
            have e_60 : M_53 37 3 = M 37 3 := (m_54 37 3 (by omega))
            refine g_callVv (n := 116) (As := [vI log]) (rest := []) hx (ctX8_sell Γ M_53 b hb log (by omega) (by omega) (by omega) g_55) mlX8_228 (obX8 hb) (dq tX8_passLog 63 rfl) rfl (Nat.le_of_ble_eq_true rfl) (Nat.le_of_ble_eq_true rfl) (Nat.le_of_ble_eq_true rfl) rfl (fun M_62 p_64 => ?_)
            obtain ⟨f_65, g_66⟩ := p_64
            exact g_vret hx hr (dq tX8_passLog 64 rfl) ⟨(fun u_ v_ huv_ => ((f_65 u_ v_ (by omega)).trans (m_54 u_ v_ (by omega)))), g_66⟩
          · refine g_aload_n (n := 99) hx 1 (dq tX8_passLog 54 rfl) rfl rfl ?_
            refine g_getR (n := 102) hx glX8_12 (sX8_1 hb) (dq tX8_passLog 55 rfl) rfl ?_
            refine g_getR (n := 105) hx glX8_57 (sX6_8 (iX8_1 hb)) (dq tX8_passLog 56 rfl) rfl ?_
            refine g_iload_n (n := 106) hx 2 (dq tX8_passLog 57 rfl) rfl rfl ?_
            refine g_iload_n (n := 107) hx 0 (dq tX8_passLog 58 rfl) rfl rfl ?_
            have e_68 : M_53 37 1 = M 37 1 := (m_54 37 1 (by omega))
            have e_69 : M_53 37 3 = M 37 3 := (m_54 37 3 (by omega))
            refine g_iast (n := 108) (q := log.toNat) hx (aX6_8 (b := b + 1) (iX8_1 hb)) (dq tX8_passLog 59 rfl) rfl (by omega) (by omega) (by omega) rfl (by omega) (by omega) (fun M_70 m_71e m_71 => ?_)
            have g_72 := Gd.place g_55 m_71e m_71 (by omega) (by omega) (by omega) (by omega)
            refine g_goto (n := 116) hx (dq tX8_passLog 60 rfl) (by decide) ?_
            exact g_vret hx hr (dq tX8_passLog 64 rfl) ⟨(fun u_ v_ huv_ => ((m_71 u_ v_ (by omega)).trans (m_54 u_ v_ (by omega)))), g_72⟩
        · refine g_aload_n (n := 72) hx 1 (dq tX8_passLog 39 rfl) rfl rfl ?_
          refine g_iload_n (n := 73) hx 2 (dq tX8_passLog 40 rfl) rfl rfl ?_
          refine g_callVv (n := 76) (As := [vI log]) (rest := []) hx (ctX8_jam Γ M b hb log (by omega) (by omega) gd0) mlX8_225 (obX8 hb) (dq tX8_passLog 41 rfl) rfl (Nat.le_of_ble_eq_true rfl) (Nat.le_of_ble_eq_true rfl) (Nat.le_of_ble_eq_true rfl) rfl (fun M_74 p_76 => ?_)
          obtain ⟨f_77, g_78⟩ := p_76
          exact g_vret hx hr (dq tX8_passLog 42 rfl) ⟨(fun u_ v_ huv_ => (f_77 u_ v_ (by omega))), g_78⟩
  · clear b_6
    refine g_aload_n (n := 12) hx 0 (dq tX8_passLog 5 rfl) rfl rfl ?_
    refine g_getR (n := 15) hx glX8_12 (sX8_1 hb) (dq tX8_passLog 6 rfl) rfl ?_
    refine g_getR (n := 18) hx glX8_215 (sX6_11 (iX8_1 hb)) (dq tX8_passLog 7 rfl) rfl ?_
    refine g_iload_n (n := 19) hx 1 (dq tX8_passLog 8 rfl) rfl rfl ?_
    refine g_iconst (n := 20) hx (dq tX8_passLog 9 rfl) rfl ?_
    refine g_iast (n := 21) (q := log.toNat) hx (aX6_11 (b := b + 1) (iX8_1 hb)) (dq tX8_passLog 10 rfl) rfl (by omega) (by omega) (by omega) rfl (by omega) (by omega) (fun M_80 m_81e m_81 => ?_)
    have g_82 : Gd M_80 37 (b + 1) := Gd.frame gd0 (fun c j hcj => m_81 c j (by omega))
    exact g_vret hx hr (dq tX8_passLog 11 rfl) ⟨(fun u_ v_ huv_ => (m_81 u_ v_ (by omega))), g_82⟩

abbrev qctX8_passVillage (M : zM) (b : Nat) (village : Int) (rule : Int) (M' : zM) : Prop := (∀ u_ v_, (u_ ≠ b ∨ v_ ≠ 8) ∧ (u_ < b + 3 ∨ b + 11 ≤ u_) ∧ (u_ ≠ b + 11 ∨ v_ ≠ 1) ∧ (u_ < b + 12 ∨ b + 28 ≤ u_) → M' u_ v_ = M u_ v_) ∧ Gd M' 37 (b + 1)
set_option maxHeartbeats 4000000 in
set_option maxRecDepth 100000 in
theorem ctX8_passVillage (Γ : Gam) (M : zM) (b : Nat) (hb : isX8 b) (village : Int) (hvillagel : 0 ≤ village) (hvillageu : village ≤ 5) (rule : Int) (hrulel : (-1) ≤ rule) (hruleu : rule ≤ 5) (pre0 : village < M 37 1) (gd0 : Gd M 37 (b + 1)) : CtV Γ yX8_passVillage cX8_passVillage 5 none 4 106 [aR Γ b, vI village, vI rule] M (qctX8_passVillage M b village rule) := by
  refine met_v (by decide) (Nat.le_of_ble_eq_true rfl) (fun x hx hr => ?_)
  show G Γ x 5 (QV Γ x (qctX8_passVillage M b village rule)) M 0 [(0, aR Γ b), (1, vI village), (2, vI rule)] []
  refine g_aload_n (n := 1) hx 0 (dq tX8_passVillage 0 rfl) rfl rfl ?_
  refine g_getR (n := 4) hx glX8_39 (sX8_0 hb) (dq tX8_passVillage 1 rfl) rfl ?_
  refine g_getR (n := 7) hx glX8_60 (sX2_5 (by decide)) (dq tX8_passVillage 2 rfl) rfl ?_
  refine g_iload_n (n := 8) hx 1 (dq tX8_passVillage 3 rfl) rfl rfl ?_
  refine g_iald (n := 9) (q := village.toNat) hx (aX2_5 (b := 37) (by decide)) (dq tX8_passVillage 4 rfl) rfl (by omega) (by omega) (by omega) rfl (fun h_1l h_1u => ?_)
  refine g_iv (fun h_3 => ?_)
  have h_3v : (0 : Int) ≤ M 37 1 ∧ M 37 1 ≤ 6 := h_3 37 1
  have h_3l : (0 : Int) ≤ M 37 3 ∧ M 37 3 ≤ 12 := h_3 37 3
  clear h_3
  have h_2 := gd0.1 village.toNat (by omega)
  refine g_istore_n (n := 10) (lv' := [(3, vI (M (37 + 1) village.toNat)), (0, aR Γ b), (1, vI village), (2, vI rule)]) hx (dq tX8_passVillage 5 rfl) (by decide) rfl rfl ?_
  refine g_iconst (n := 11) hx (dq tX8_passVillage 6 rfl) rfl ?_
  refine g_istore (n := 13) (lv' := [(4, vI 0), (3, vI (M (37 + 1) village.toNat)), (0, aR Γ b), (1, vI village), (2, vI rule)]) hx (dq tX8_passVillage 7 rfl) (by decide) rfl rfl ?_
  have L_6 : ∀ (n_ : Nat) (i_4 : Int) (M_5 : zM), (0 ≤ i_4) → (i_4 ≤ 12) → (∀ u_ v_, (u_ ≠ b ∨ v_ ≠ 8) ∧ (u_ < b + 3 ∨ b + 11 ≤ u_) ∧ (u_ ≠ b + 11 ∨ v_ ≠ 1) ∧ (u_ < b + 12 ∨ b + 28 ≤ u_) → M_5 u_ v_ = M u_ v_) → (Gd M_5 37 (b + 1)) → ((12 - i_4).toNat = n_) → G Γ x 5 (QV Γ x (qctX8_passVillage M b village rule)) M_5 13 [(4, vI i_4), (3, vI (M (37 + 1) village.toNat)), (0, aR Γ b), (1, vI village), (2, vI rule)] [] := by
    intro n_
    induction n_ using Nat.strongRecOn with
    | _ n_ ih_7 =>
      intro i_4 M_5 h_11 h_12 f_8 g_9 hm_10
      refine g_iload (n := 15) hx 0 (dq tX8_passVillage 8 rfl) rfl rfl ?_
      refine g_aload_n (n := 16) hx 2 (dq tX8_passVillage 9 rfl) rfl rfl ?_
      refine g_getR (n := 19) hx glX8_39 (sX8_0 hb) (dq tX8_passVillage 10 rfl) rfl ?_
      refine g_getI (n := 22) hx glX8_69 (sX2_3 (by decide)) (dq tX8_passVillage 11 rfl) rfl (fun h_13l h_13u => ?_)
      have e_14 : M_5 37 3 = M 37 3 := (f_8 37 3 (by omega))
      refine g_icmp_ge (n := 25) (t := 64) hx (dq tX8_passVillage 12 rfl) (by decide) rfl ⟨by omega, by omega⟩ (zrI h_13l h_13u (by decide) (by decide)) (fun c_15 => ?_) (fun c_15 => ?_)
      · refine g_iconst (n := 65) hx (dq tX8_passVillage 33 rfl) rfl ?_
        refine g_istore (n := 67) (lv' := [(4, vI 0), (3, vI (M (37 + 1) village.toNat)), (0, aR Γ b), (1, vI village), (2, vI rule)]) hx (dq tX8_passVillage 34 rfl) (by decide) rfl rfl ?_
        have L_18 : ∀ (n_ : Nat) (i_16 : Int) (M_17 : zM), (0 ≤ i_16) → (i_16 ≤ 12) → (∀ u_ v_, u_ ≠ b + 24 ∧ u_ ≠ b + 1 + 3 → M_17 u_ v_ = M_5 u_ v_) → (Gd M_17 37 (b + 1)) → ((12 - i_16).toNat = n_) → G Γ x 5 (QV Γ x (qctX8_passVillage M b village rule)) M_17 67 [(4, vI i_16), (3, vI (M (37 + 1) village.toNat)), (0, aR Γ b), (1, vI village), (2, vI rule)] [] := by
          intro n_
          induction n_ using Nat.strongRecOn with
          | _ n_ ih_19 =>
            intro i_16 M_17 h_23 h_24 f_20 g_21 hm_22
            refine g_iload (n := 69) hx 0 (dq tX8_passVillage 35 rfl) rfl rfl ?_
            refine g_aload_n (n := 70) hx 2 (dq tX8_passVillage 36 rfl) rfl rfl ?_
            refine g_getR (n := 73) hx glX8_39 (sX8_0 hb) (dq tX8_passVillage 37 rfl) rfl ?_
            refine g_getI (n := 76) hx glX8_69 (sX2_3 (by decide)) (dq tX8_passVillage 38 rfl) rfl (fun h_25l h_25u => ?_)
            have e_26 : M_17 37 3 = M_5 37 3 := (f_20 37 3 (by omega))
            refine g_icmp_ge (n := 79) (t := 155) hx (dq tX8_passVillage 39 rfl) (by decide) rfl ⟨by omega, by omega⟩ (zrI h_25l h_25u (by decide) (by decide)) (fun c_27 => ?_) (fun c_27 => ?_)
            · exact g_vret hx hr (dq tX8_passVillage 83 rfl) ⟨(fun u_ v_ huv_ => ((f_20 u_ v_ (by omega)).trans (f_8 u_ v_ (by omega)))), g_21⟩
            · refine g_aload_n (n := 80) hx 2 (dq tX8_passVillage 40 rfl) rfl rfl ?_
              refine g_getR (n := 83) hx glX8_12 (sX8_1 hb) (dq tX8_passVillage 41 rfl) rfl ?_
              refine g_getR (n := 86) hx glX8_57 (sX6_8 (iX8_1 hb)) (dq tX8_passVillage 42 rfl) rfl ?_
              refine g_iload (n := 88) hx 0 (dq tX8_passVillage 43 rfl) rfl rfl ?_
              refine g_iald (n := 89) (q := i_16.toNat) hx (aX6_8 (b := b + 1) (iX8_1 hb)) (dq tX8_passVillage 44 rfl) rfl (by omega) (by omega) (by omega) rfl (fun h_28l h_28u => ?_)
              refine g_bipush (n := 91) hx (dq tX8_passVillage 45 rfl) rfl (by decide) ?_
              refine g_iload_n (n := 92) hx 3 (dq tX8_passVillage 46 rfl) rfl rfl ?_
              refine g_iadd (n := 93) hx (dq tX8_passVillage 47 rfl) rfl ?_
              refine g_icmp_ne (n := 96) (t := 149) hx (dq tX8_passVillage 48 rfl) (by decide) rfl (zrI h_28l h_28u (by decide) (by decide)) ⟨by omega, by omega⟩ (fun c_29 => ?_) (fun c_29 => ?_)
              · refine g_iinc (n := 152) (lv' := [(4, vI (i_16 + 1)), (3, vI (M (37 + 1) village.toNat)), (0, aR Γ b), (1, vI village), (2, vI rule)]) hx 0 (dq tX8_passVillage 81 rfl) rfl (by decide) rfl rfl ?_
                refine g_goto (n := 67) hx (dq tX8_passVillage 82 rfl) (by decide) ?_
                exact ih_19 _ (by omega) (i_16 + 1) M_17 (by omega) (by omega) (fun u_ v_ huv_ => (f_20 u_ v_ (by omega))) g_21 rfl
              · refine g_aload_n (n := 97) hx 2 (dq tX8_passVillage 49 rfl) rfl rfl ?_
                refine g_getI (n := 100) hx glX8_205 (sX8_8 hb) (dq tX8_passVillage 50 rfl) rfl (fun h_30l h_30u => ?_)
                refine g_iload (n := 102) hx 0 (dq tX8_passVillage 51 rfl) rfl rfl ?_
                refine g_ishr (n := 103) hx (dq tX8_passVillage 52 rfl) rfl (fun z_31 h_32 => ?_)
                refine g_iconst (n := 104) hx (dq tX8_passVillage 53 rfl) rfl ?_
                refine g_iand (n := 105) hx (dq tX8_passVillage 54 rfl) rfl (fun z_34 h_35 h_361 h_362 => ?_)
                obtain ⟨h_363, h_364⟩ := h_361 (by omega) (by omega)
                clear h_361 h_362
                refine g_if_ne (n := 108) (t := 149) hx (dq tX8_passVillage 55 rfl) (by decide) rfl h_35 (fun c_37 => ?_) (fun c_37 => ?_)
                · refine g_iinc (n := 152) (lv' := [(4, vI (i_16 + 1)), (3, vI (M (37 + 1) village.toNat)), (0, aR Γ b), (1, vI village), (2, vI rule)]) hx 0 (dq tX8_passVillage 81 rfl) rfl (by decide) rfl rfl ?_
                  refine g_goto (n := 67) hx (dq tX8_passVillage 82 rfl) (by decide) ?_
                  exact ih_19 _ (by omega) (i_16 + 1) M_17 (by omega) (by omega) (fun u_ v_ huv_ => (f_20 u_ v_ (by omega))) g_21 rfl
                · refine g_aload_n (n := 109) hx 2 (dq tX8_passVillage 56 rfl) rfl rfl ?_
                  refine g_iload_n (n := 110) hx 1 (dq tX8_passVillage 57 rfl) rfl rfl ?_
                  have e_38 : M_17 37 1 = M 37 1 := ((f_20 37 1 (by omega))).trans (f_8 37 1 (by omega))
                  refine g_callVi (n := 113) (As := [vI (M (37 + 1) village.toNat)]) (rest := []) hx (ctX8_roomAt Γ M_17 b hb (M (37 + 1) village.toNat) (by omega) (by omega)) mlX8_184 (obX8 hb) (dq tX8_passVillage 58 rfl) rfl (Nat.le_of_ble_eq_true rfl) (Nat.le_of_ble_eq_true rfl) (Nat.le_of_ble_eq_true rfl) rfl (fun z_39 M_40 h_41 p_42 => ?_)
                  obtain rfl := p_42
                  refine g_if_le (n := 116) (t := 149) hx (dq tX8_passVillage 59 rfl) (by decide) rfl h_41 (fun c_44 => ?_) (fun c_44 => ?_)
                  · refine g_iinc (n := 152) (lv' := [(4, vI (i_16 + 1)), (3, vI (M (37 + 1) village.toNat)), (0, aR Γ b), (1, vI village), (2, vI rule)]) hx 0 (dq tX8_passVillage 81 rfl) rfl (by decide) rfl rfl ?_
                    refine g_goto (n := 67) hx (dq tX8_passVillage 82 rfl) (by decide) ?_
                    exact ih_19 _ (by omega) (i_16 + 1) M_17 (by omega) (by omega) (fun u_ v_ huv_ => (f_20 u_ v_ (by omega))) g_21 rfl
                  · refine g_aload_n (n := 117) hx 2 (dq tX8_passVillage 60 rfl) rfl rfl ?_
                    refine g_iload_n (n := 118) hx 4 (dq tX8_passVillage 61 rfl) rfl rfl ?_
                    refine g_iconst (n := 119) hx (dq tX8_passVillage 62 rfl) rfl ?_
                    refine g_iload (n := 121) hx 0 (dq tX8_passVillage 63 rfl) rfl rfl ?_
                    refine g_iload_n (n := 122) hx 3 (dq tX8_passVillage 64 rfl) rfl rfl ?_
                    refine g_callVi (n := 125) (As := [vI rule, vI 2, vI i_16, vI village]) (rest := []) hx (ctX8_asks Γ M_17 b hb rule (by omega) (by omega) 2 (by decide) (by decide) i_16 (by omega) (by omega) village (by omega) (by omega) (by omega) (by omega) g_21) mlX8_221 (obX8 hb) (dq tX8_passVillage 65 rfl) rfl (Nat.le_of_ble_eq_true rfl) (Nat.le_of_ble_eq_true rfl) (Nat.le_of_ble_eq_true rfl) rfl (fun z_45 M_46 h_47 p_48 => ?_)
                    obtain ⟨rfl, b_50⟩ := p_48
                    refine g_if_eq (n := 128) (t := 149) hx (dq tX8_passVillage 66 rfl) (by decide) rfl h_47 (fun c_51 => ?_) (fun c_51 => ?_)
                    · clear b_50
                      refine g_iinc (n := 152) (lv' := [(4, vI (i_16 + 1)), (3, vI (M (37 + 1) village.toNat)), (0, aR Γ b), (1, vI village), (2, vI rule)]) hx 0 (dq tX8_passVillage 81 rfl) rfl (by decide) rfl rfl ?_
                      refine g_goto (n := 67) hx (dq tX8_passVillage 82 rfl) (by decide) ?_
                      exact ih_19 _ (by omega) (i_16 + 1) M_17 (by omega) (by omega) (fun u_ v_ huv_ => (f_20 u_ v_ (by omega))) g_21 rfl
                    · have b_50 := b_50.resolve_left c_51
                      obtain ⟨-⟩ := b_50
                      refine g_aload_n (n := 129) hx 2 (dq tX8_passVillage 67 rfl) rfl rfl ?_
                      refine g_getR (n := 132) hx glX8_12 (sX8_1 hb) (dq tX8_passVillage 68 rfl) rfl ?_
                      refine g_getR (n := 135) hx glX8_57 (sX6_8 (iX8_1 hb)) (dq tX8_passVillage 69 rfl) rfl ?_
                      refine g_iload (n := 137) hx 0 (dq tX8_passVillage 70 rfl) rfl rfl ?_
                      refine g_iload_n (n := 138) hx 1 (dq tX8_passVillage 71 rfl) rfl rfl ?_
                      refine g_iast (n := 139) (q := i_16.toNat) hx (aX6_8 (b := b + 1) (iX8_1 hb)) (dq tX8_passVillage 72 rfl) rfl (by omega) (by omega) (by omega) rfl (by omega) (by omega) (fun M_52 m_53e m_53 => ?_)
                      have g_54 := Gd.place g_21 m_53e m_53 (by omega) (by omega) (by omega) (by omega)
                      refine g_aload_n (n := 140) hx 2 (dq tX8_passVillage 73 rfl) rfl rfl ?_
                      refine g_getR (n := 143) hx glX8_25 (sX8_3 hb) (dq tX8_passVillage 74 rfl) rfl ?_
                      refine g_iconst (n := 144) hx (dq tX8_passVillage 75 rfl) rfl ?_
                      refine g_dup2 (n := 145) hx (dq tX8_passVillage 76 rfl) rfl rfl rfl ?_
                      refine g_iald (n := 146) (q := 4) hx (aX8_3 (b := b) hb) (dq tX8_passVillage 77 rfl) rfl (by decide) (by decide) (by decide) rfl (fun h_55l h_55u => ?_)
                      refine g_iconst (n := 147) hx (dq tX8_passVillage 78 rfl) rfl ?_
                      refine g_iadd (n := 148) hx (dq tX8_passVillage 79 rfl) rfl ?_
                      refine g_any (fun z_56 h_57 => ?_)
                      refine g_iast (n := 149) (q := 4) hx (aX8_3 (b := b) hb) (dq tX8_passVillage 80 rfl) rfl (by decide) (by decide) (by decide) rfl (by omega) (by omega) (fun M_58 m_59e m_59 => ?_)
                      have g_60 : Gd M_58 37 (b + 1) := Gd.frame g_54 (fun c j hcj => m_59 c j (by omega))
                      refine g_iinc (n := 152) (lv' := [(4, vI (i_16 + 1)), (3, vI (M (37 + 1) village.toNat)), (0, aR Γ b), (1, vI village), (2, vI rule)]) hx 0 (dq tX8_passVillage 81 rfl) rfl (by decide) rfl rfl ?_
                      refine g_goto (n := 67) hx (dq tX8_passVillage 82 rfl) (by decide) ?_
                      exact ih_19 _ (by omega) (i_16 + 1) M_58 (by omega) (by omega) (fun u_ v_ huv_ => (((m_59 u_ v_ (by omega)).trans (m_53 u_ v_ (by omega))).trans (f_20 u_ v_ (by omega)))) g_60 rfl
        exact L_18 _ 0 M_5 (by omega) (by omega) (fun _ _ _ => rfl) g_9 rfl
      · refine g_aload_n (n := 26) hx 2 (dq tX8_passVillage 13 rfl) rfl rfl ?_
        refine g_getR (n := 29) hx glX8_12 (sX8_1 hb) (dq tX8_passVillage 14 rfl) rfl ?_
        refine g_getR (n := 32) hx glX8_57 (sX6_8 (iX8_1 hb)) (dq tX8_passVillage 15 rfl) rfl ?_
        refine g_iload (n := 34) hx 0 (dq tX8_passVillage 16 rfl) rfl rfl ?_
        refine g_iald (n := 35) (q := i_4.toNat) hx (aX6_8 (b := b + 1) (iX8_1 hb)) (dq tX8_passVillage 17 rfl) rfl (by omega) (by omega) (by omega) rfl (fun h_61l h_61u => ?_)
        refine g_iload_n (n := 36) hx 1 (dq tX8_passVillage 18 rfl) rfl rfl ?_
        refine g_icmp_ne (n := 39) (t := 58) hx (dq tX8_passVillage 19 rfl) (by decide) rfl (zrI h_61l h_61u (by decide) (by decide)) (zrI h_1l h_1u (by decide) (by decide)) (fun c_62 => ?_) (fun c_62 => ?_)
        · refine g_iinc (n := 61) (lv' := [(4, vI (i_4 + 1)), (3, vI (M (37 + 1) village.toNat)), (0, aR Γ b), (1, vI village), (2, vI rule)]) hx 0 (dq tX8_passVillage 31 rfl) rfl (by decide) rfl rfl ?_
          refine g_goto (n := 13) hx (dq tX8_passVillage 32 rfl) (by decide) ?_
          exact ih_7 _ (by omega) (i_4 + 1) M_5 (by omega) (by omega) (fun u_ v_ huv_ => (f_8 u_ v_ (by omega))) g_9 rfl
        · refine g_aload_n (n := 40) hx 2 (dq tX8_passVillage 20 rfl) rfl rfl ?_
          refine g_iload_n (n := 41) hx 4 (dq tX8_passVillage 21 rfl) rfl rfl ?_
          refine g_iconst (n := 42) hx (dq tX8_passVillage 22 rfl) rfl ?_
          refine g_iload (n := 44) hx 0 (dq tX8_passVillage 23 rfl) rfl rfl ?_
          refine g_iload_n (n := 45) hx 3 (dq tX8_passVillage 24 rfl) rfl rfl ?_
          have e_63 : M_5 37 1 = M 37 1 := (f_8 37 1 (by omega))
          refine g_callVi (n := 48) (As := [vI rule, vI 1, vI i_4, vI village]) (rest := []) hx (ctX8_asks Γ M_5 b hb rule (by omega) (by omega) 1 (by decide) (by decide) i_4 (by omega) (by omega) village (by omega) (by omega) (by omega) (by omega) g_9) mlX8_221 (obX8 hb) (dq tX8_passVillage 25 rfl) rfl (Nat.le_of_ble_eq_true rfl) (Nat.le_of_ble_eq_true rfl) (Nat.le_of_ble_eq_true rfl) rfl (fun z_64 M_65 h_66 p_67 => ?_)
          obtain ⟨rfl, b_69⟩ := p_67
          refine g_if_eq (n := 51) (t := 58) hx (dq tX8_passVillage 26 rfl) (by decide) rfl h_66 (fun c_70 => ?_) (fun c_70 => ?_)
          · clear b_69
            refine g_iinc (n := 61) (lv' := [(4, vI (i_4 + 1)), (3, vI (M (37 + 1) village.toNat)), (0, aR Γ b), (1, vI village), (2, vI rule)]) hx 0 (dq tX8_passVillage 31 rfl) rfl (by decide) rfl rfl ?_
            refine g_goto (n := 13) hx (dq tX8_passVillage 32 rfl) (by decide) ?_
            exact ih_7 _ (by omega) (i_4 + 1) M_5 (by omega) (by omega) (fun u_ v_ huv_ => (f_8 u_ v_ (by omega))) g_9 rfl
          · have b_69 := b_69.resolve_left c_70
            obtain ⟨-⟩ := b_69
            refine g_aload_n (n := 52) hx 2 (dq tX8_passVillage 27 rfl) rfl rfl ?_
            refine g_iload (n := 54) hx 0 (dq tX8_passVillage 28 rfl) rfl rfl ?_
            refine g_iload_n (n := 55) hx 3 (dq tX8_passVillage 29 rfl) rfl rfl ?_
            refine g_callVv (n := 58) (As := [vI i_4, vI village]) (rest := []) hx (ctX8_take Γ M_5 b hb i_4 (by omega) (by omega) village (by omega) (by omega) (by omega) (by omega) g_9) mlX8_240 (obX8 hb) (dq tX8_passVillage 30 rfl) rfl (Nat.le_of_ble_eq_true rfl) (Nat.le_of_ble_eq_true rfl) (Nat.le_of_ble_eq_true rfl) rfl (fun M_72 p_74 => ?_)
            obtain ⟨f_75, g_76⟩ := p_74
            refine g_iinc (n := 61) (lv' := [(4, vI (i_4 + 1)), (3, vI (M (37 + 1) village.toNat)), (0, aR Γ b), (1, vI village), (2, vI rule)]) hx 0 (dq tX8_passVillage 31 rfl) rfl (by decide) rfl rfl ?_
            refine g_goto (n := 13) hx (dq tX8_passVillage 32 rfl) (by decide) ?_
            exact ih_7 _ (by omega) (i_4 + 1) M_72 (by omega) (by omega) (fun u_ v_ huv_ => ((f_75 u_ v_ (by omega)).trans (f_8 u_ v_ (by omega)))) g_76 rfl
  exact L_6 _ 0 M (by omega) (by omega) (fun _ _ _ => rfl) gd0 rfl

abbrev qctX8_passDay (M : zM) (b : Nat) (M' : zM) : Prop := (∀ u_ v_, (u_ ≠ b ∨ v_ ≠ 8) ∧ (u_ < b + 3 ∨ b + 11 ≤ u_) ∧ (u_ ≠ b + 11 ∨ v_ ≠ 1) ∧ (u_ < b + 12 ∨ b + 28 ≤ u_) ∧ (u_ ≠ b + 1 ∨ v_ ≠ 0) → M' u_ v_ = M u_ v_) ∧ Gd M' 37 (b + 1)
set_option maxHeartbeats 4000000 in
set_option maxRecDepth 100000 in
theorem ctX8_passDay (Γ : Gam) (M : zM) (b : Nat) (hb : isX8 b) (gd0 : Gd M 37 (b + 1)) : CtV Γ yX8_passDay cX8_passDay 2 none 5 130 [aR Γ b] M (qctX8_passDay M b) := by
  refine met_v (by decide) (Nat.le_of_ble_eq_true rfl) (fun x hx hr => ?_)
  show G Γ x 2 (QV Γ x (qctX8_passDay M b)) M 0 [(0, aR Γ b)] []
  refine g_iconst (n := 1) hx (dq tX8_passDay 0 rfl) rfl ?_
  refine g_istore_n (n := 2) (lv' := [(1, vI 0), (0, aR Γ b)]) hx (dq tX8_passDay 1 rfl) (by decide) rfl rfl ?_
  have L_3 : ∀ (n_ : Nat) (i_1 : Int) (M_2 : zM), (0 ≤ i_1) → (i_1 ≤ 12) → (∀ u_ v_, (u_ ≠ b ∨ v_ ≠ 8) ∧ (u_ < b + 3 ∨ b + 11 ≤ u_) ∧ (u_ ≠ b + 11 ∨ v_ ≠ 1) ∧ (u_ < b + 12 ∨ b + 28 ≤ u_) → M_2 u_ v_ = M u_ v_) → (Gd M_2 37 (b + 1)) → ((12 - i_1).toNat = n_) → G Γ x 2 (QV Γ x (qctX8_passDay M b)) M_2 2 [(1, vI i_1), (0, aR Γ b)] [] := by
    intro n_
    induction n_ using Nat.strongRecOn with
    | _ n_ ih_4 =>
      intro i_1 M_2 h_8 h_9 f_5 g_6 hm_7
      refine g_iload_n (n := 3) hx 0 (dq tX8_passDay 2 rfl) rfl rfl ?_
      refine g_aload_n (n := 4) hx 1 (dq tX8_passDay 3 rfl) rfl rfl ?_
      refine g_getR (n := 7) hx glX8_39 (sX8_0 hb) (dq tX8_passDay 4 rfl) rfl ?_
      refine g_getI (n := 10) hx glX8_69 (sX2_3 (by decide)) (dq tX8_passDay 5 rfl) rfl (fun h_10l h_10u => ?_)
      have e_11 : M_2 37 3 = M 37 3 := (f_5 37 3 (by omega))
      refine g_icmp_ge (n := 13) (t := 32) hx (dq tX8_passDay 6 rfl) (by decide) rfl ⟨by omega, by omega⟩ (zrI h_10l h_10u (by decide) (by decide)) (fun c_12 => ?_) (fun c_12 => ?_)
      · refine g_aload_n (n := 33) hx 1 (dq tX8_passDay 16 rfl) rfl rfl ?_
        refine g_iconst (n := 34) hx (dq tX8_passDay 17 rfl) rfl ?_
        refine g_putI (n := 37) hx plX8_205 (sX8_8 hb) (dq tX8_passDay 18 rfl) rfl (by omega) (by omega) (fun M_13 m_14e m_14 => ?_)
        have g_15 : Gd M_13 37 (b + 1) := Gd.frame g_6 (fun c j hcj => m_14 c j (by omega))
        refine g_iconst (n := 38) hx (dq tX8_passDay 19 rfl) rfl ?_
        refine g_istore_n (n := 39) (lv' := [(1, vI 0), (0, aR Γ b)]) hx (dq tX8_passDay 20 rfl) (by decide) rfl rfl ?_
        have L_18 : ∀ (n_ : Nat) (i_16 : Int) (M_17 : zM), (0 ≤ i_16) → (i_16 ≤ 6) → (∀ u_ v_, (u_ ≠ b ∨ v_ ≠ 8) ∧ (u_ < b + 3 ∨ b + 11 ≤ u_) ∧ (u_ ≠ b + 11 ∨ v_ ≠ 1) ∧ (u_ < b + 12 ∨ b + 28 ≤ u_) → M_17 u_ v_ = M_13 u_ v_) → (Gd M_17 37 (b + 1)) → ((6 - i_16).toNat = n_) → G Γ x 2 (QV Γ x (qctX8_passDay M b)) M_17 39 [(1, vI i_16), (0, aR Γ b)] [] := by
          intro n_
          induction n_ using Nat.strongRecOn with
          | _ n_ ih_19 =>
            intro i_16 M_17 h_23 h_24 f_20 g_21 hm_22
            refine g_iload_n (n := 40) hx 0 (dq tX8_passDay 21 rfl) rfl rfl ?_
            refine g_aload_n (n := 41) hx 1 (dq tX8_passDay 22 rfl) rfl rfl ?_
            refine g_getR (n := 44) hx glX8_39 (sX8_0 hb) (dq tX8_passDay 23 rfl) rfl ?_
            refine g_getI (n := 47) hx glX8_93 (sX2_1 (by decide)) (dq tX8_passDay 24 rfl) rfl (fun h_25l h_25u => ?_)
            have e_26 : M_17 37 1 = M 37 1 := (((f_20 37 1 (by omega))).trans (m_14 37 1 (by omega))).trans (f_5 37 1 (by omega))
            refine g_icmp_ge (n := 50) (t := 83) hx (dq tX8_passDay 25 rfl) (by decide) rfl ⟨by omega, by omega⟩ (zrI h_25l h_25u (by decide) (by decide)) (fun c_27 => ?_) (fun c_27 => ?_)
            · refine g_aload_n (n := 84) hx 1 (dq tX8_passDay 43 rfl) rfl rfl ?_
              refine g_getR (n := 87) hx glX8_12 (sX8_1 hb) (dq tX8_passDay 44 rfl) rfl ?_
              refine g_aload_n (n := 88) hx 1 (dq tX8_passDay 45 rfl) rfl rfl ?_
              refine g_getR (n := 91) hx glX8_12 (sX8_1 hb) (dq tX8_passDay 46 rfl) rfl ?_
              refine g_getI (n := 94) hx glX8_96 (sX6_0 (iX8_1 hb)) (dq tX8_passDay 47 rfl) rfl (fun h_28l h_28u => ?_)
              refine g_iconst (n := 95) hx (dq tX8_passDay 48 rfl) rfl ?_
              refine g_iadd (n := 96) hx (dq tX8_passDay 49 rfl) rfl ?_
              refine g_sipush (n := 99) hx (dq tX8_passDay 50 rfl) rfl (by decide) ?_
              refine g_min (n := 102) hx wd_879 wd_577 wd_17 wd_578 (dq tX8_passDay 51 rfl) rfl (Nat.le_of_ble_eq_true rfl) (Nat.le_of_ble_eq_true rfl) ⟨by omega, by omega⟩ ⟨by decide, by decide⟩ (fun z_29 h_30 h_301 h_302 h_303 => ?_)
              refine g_putI (n := 105) hx plX8_96 (sX6_0 (iX8_1 hb)) (dq tX8_passDay 52 rfl) rfl (by omega) (by omega) (fun M_31 m_32e m_32 => ?_)
              have g_33 : Gd M_31 37 (b + 1) := Gd.frame g_21 (fun c j hcj => m_32 c j (by omega))
              exact g_vret hx hr (dq tX8_passDay 53 rfl) ⟨(fun u_ v_ huv_ => ((((m_32 u_ v_ (by omega)).trans (f_20 u_ v_ (by omega))).trans (m_14 u_ v_ (by omega))).trans (f_5 u_ v_ (by omega)))), g_33⟩
            · refine g_aload_n (n := 51) hx 1 (dq tX8_passDay 26 rfl) rfl rfl ?_
              refine g_getR (n := 54) hx glX8_12 (sX8_1 hb) (dq tX8_passDay 27 rfl) rfl ?_
              refine g_getR (n := 57) hx glX8_208 (sX6_6 (iX8_1 hb)) (dq tX8_passDay 28 rfl) rfl ?_
              refine g_iload_n (n := 58) hx 0 (dq tX8_passDay 29 rfl) rfl rfl ?_
              refine g_iald (n := 59) (q := i_16.toNat) hx (aX6_6 (b := b + 1) (iX8_1 hb)) (dq tX8_passDay 30 rfl) rfl (by omega) (by omega) (by omega) rfl (fun h_34l h_34u => ?_)
              refine g_iconst (n := 60) hx (dq tX8_passDay 31 rfl) rfl ?_
              refine g_icmp_eq (n := 63) (t := 77) hx (dq tX8_passDay 32 rfl) (by decide) rfl (zrI h_34l h_34u (by decide) (by decide)) ⟨by decide, by decide⟩ (fun c_35 => ?_) (fun c_35 => ?_)
              · refine g_iinc (n := 80) (lv' := [(1, vI (i_16 + 1)), (0, aR Γ b)]) hx 0 (dq tX8_passDay 41 rfl) rfl (by decide) rfl rfl ?_
                refine g_goto (n := 39) hx (dq tX8_passDay 42 rfl) (by decide) ?_
                exact ih_19 _ (by omega) (i_16 + 1) M_17 (by omega) (by omega) (fun u_ v_ huv_ => (f_20 u_ v_ (by omega))) g_21 rfl
              · refine g_aload_n (n := 64) hx 1 (dq tX8_passDay 33 rfl) rfl rfl ?_
                refine g_iload_n (n := 65) hx 0 (dq tX8_passDay 34 rfl) rfl rfl ?_
                refine g_aload_n (n := 66) hx 1 (dq tX8_passDay 35 rfl) rfl rfl ?_
                refine g_getR (n := 69) hx glX8_12 (sX8_1 hb) (dq tX8_passDay 36 rfl) rfl ?_
                refine g_getR (n := 72) hx glX8_208 (sX6_6 (iX8_1 hb)) (dq tX8_passDay 37 rfl) rfl ?_
                refine g_iload_n (n := 73) hx 0 (dq tX8_passDay 38 rfl) rfl rfl ?_
                refine g_iald (n := 74) (q := i_16.toNat) hx (aX6_6 (b := b + 1) (iX8_1 hb)) (dq tX8_passDay 39 rfl) rfl (by omega) (by omega) (by omega) rfl (fun h_36l h_36u => ?_)
                have e_37 : M_17 37 3 = M_2 37 3 := ((f_20 37 3 (by omega))).trans (m_14 37 3 (by omega))
                refine g_callVv (n := 77) (As := [vI i_16, vI (M_17 (b + 1 + 1) i_16.toNat)]) (rest := []) hx (ctX8_passVillage Γ M_17 b hb i_16 (by omega) (by omega) (M_17 (b + 1 + 1) i_16.toNat) (by omega) (by omega) (by omega) g_21) mlX8_211 (obX8 hb) (dq tX8_passDay 40 rfl) rfl (Nat.le_of_ble_eq_true rfl) (Nat.le_of_ble_eq_true rfl) (Nat.le_of_ble_eq_true rfl) rfl (fun M_39 p_41 => ?_)
                obtain ⟨f_42, g_43⟩ := p_41
                refine g_iinc (n := 80) (lv' := [(1, vI (i_16 + 1)), (0, aR Γ b)]) hx 0 (dq tX8_passDay 41 rfl) rfl (by decide) rfl rfl ?_
                refine g_goto (n := 39) hx (dq tX8_passDay 42 rfl) (by decide) ?_
                exact ih_19 _ (by omega) (i_16 + 1) M_39 (by omega) (by omega) (fun u_ v_ huv_ => ((f_42 u_ v_ (by omega)).trans (f_20 u_ v_ (by omega)))) g_43 rfl
        exact L_18 _ 0 M_13 (by omega) (by omega) (fun _ _ _ => rfl) g_15 rfl
      · refine g_aload_n (n := 14) hx 1 (dq tX8_passDay 7 rfl) rfl rfl ?_
        refine g_aload_n (n := 15) hx 1 (dq tX8_passDay 8 rfl) rfl rfl ?_
        refine g_getR (n := 18) hx glX8_12 (sX8_1 hb) (dq tX8_passDay 9 rfl) rfl ?_
        refine g_getR (n := 21) hx glX8_198 (sX6_12 (iX8_1 hb)) (dq tX8_passDay 10 rfl) rfl ?_
        refine g_iload_n (n := 22) hx 0 (dq tX8_passDay 11 rfl) rfl rfl ?_
        refine g_iald (n := 23) (q := i_1.toNat) hx (aX6_12 (b := b + 1) (iX8_1 hb)) (dq tX8_passDay 12 rfl) rfl (by omega) (by omega) (by omega) rfl (fun h_45l h_45u => ?_)
        have e_46 : M_2 37 1 = M 37 1 := (f_5 37 1 (by omega))
        refine g_iv (fun h_48 => ?_)
        have h_48v : (0 : Int) ≤ M_2 37 1 ∧ M_2 37 1 ≤ 6 := h_48 37 1
        have h_48l : (0 : Int) ≤ M_2 37 3 ∧ M_2 37 3 ≤ 12 := h_48 37 3
        clear h_48
        have h_47 := g_6.2.2.2.1 i_1.toNat (by omega)
        refine g_callVv (n := 26) (As := [vI (M_2 (b + 1 + 7) i_1.toNat)]) (rest := []) hx (ctX8_passLog Γ M_2 b hb (M_2 (b + 1 + 7) i_1.toNat) (by omega) (by omega) (by omega) g_6) mlX8_201 (obX8 hb) (dq tX8_passDay 13 rfl) rfl (Nat.le_of_ble_eq_true rfl) (Nat.le_of_ble_eq_true rfl) (Nat.le_of_ble_eq_true rfl) rfl (fun M_50 p_52 => ?_)
        obtain ⟨f_53, g_54⟩ := p_52
        refine g_iinc (n := 29) (lv' := [(1, vI (i_1 + 1)), (0, aR Γ b)]) hx 0 (dq tX8_passDay 14 rfl) rfl (by decide) rfl rfl ?_
        refine g_goto (n := 2) hx (dq tX8_passDay 15 rfl) (by decide) ?_
        exact ih_4 _ (by omega) (i_1 + 1) M_50 (by omega) (by omega) (fun u_ v_ huv_ => ((f_53 u_ v_ (by omega)).trans (f_5 u_ v_ (by omega)))) g_54 rfl
  exact L_3 _ 0 M (by omega) (by omega) (fun _ _ _ => rfl) gd0 rfl

abbrev qctX8_goesAhead (M : zM) (b : Nat) (log : Int) (other : Int) (z : Int) (M' : zM) : Prop := M = M' ∧ (z = 0 ∨ (z = 1))
set_option maxHeartbeats 4000000 in
set_option maxRecDepth 100000 in
theorem ctX8_goesAhead (Γ : Gam) (M : zM) (b : Nat) (hb : isX8 b) (log : Int) (hlogl : 0 ≤ log) (hlogu : log ≤ 11) (other : Int) (hotherl : 0 ≤ other) (hotheru : other ≤ 11)  : CtI Γ yX8_goesAhead cX8_goesAhead 3 (some .boolean) 0 0 [aR Γ b, vI log, vI other] M (qctX8_goesAhead M b log other) := by
  refine met_i (by decide) (Nat.le_of_ble_eq_true rfl) (fun x hx hr => ?_)
  show G Γ x 3 (QI Γ x (qctX8_goesAhead M b log other)) M 0 [(0, aR Γ b), (1, vI log), (2, vI other)] []
  refine g_aload_n (n := 1) hx 0 (dq tX8_goesAhead 0 rfl) rfl rfl ?_
  refine g_getR (n := 4) hx glX8_33 (sX8_6 hb) (dq tX8_goesAhead 1 rfl) rfl ?_
  refine g_iload_n (n := 5) hx 1 (dq tX8_goesAhead 2 rfl) rfl rfl ?_
  refine g_iald (n := 6) (q := log.toNat) hx (aX8_6 (b := b) hb) (dq tX8_goesAhead 3 rfl) rfl (by omega) (by omega) (by omega) rfl (fun h_1l h_1u => ?_)
  refine g_aload_n (n := 7) hx 0 (dq tX8_goesAhead 4 rfl) rfl rfl ?_
  refine g_getR (n := 10) hx glX8_33 (sX8_6 hb) (dq tX8_goesAhead 5 rfl) rfl ?_
  refine g_iload_n (n := 11) hx 2 (dq tX8_goesAhead 6 rfl) rfl rfl ?_
  refine g_iald (n := 12) (q := other.toNat) hx (aX8_6 (b := b) hb) (dq tX8_goesAhead 7 rfl) rfl (by omega) (by omega) (by omega) rfl (fun h_2l h_2u => ?_)
  refine g_icmp_eq (n := 15) (t := 36) hx (dq tX8_goesAhead 8 rfl) (by decide) rfl (zrI h_1l h_1u (by decide) (by decide)) (zrI h_2l h_2u (by decide) (by decide)) (fun c_3 => ?_) (fun c_3 => ?_)
  · refine g_aload_n (n := 37) hx 0 (dq tX8_goesAhead 22 rfl) rfl rfl ?_
    refine g_getR (n := 40) hx glX8_33 (sX8_6 hb) (dq tX8_goesAhead 23 rfl) rfl ?_
    refine g_iload_n (n := 41) hx 1 (dq tX8_goesAhead 24 rfl) rfl rfl ?_
    refine g_iald (n := 42) (q := log.toNat) hx (aX8_6 (b := b) hb) (dq tX8_goesAhead 25 rfl) rfl (by omega) (by omega) (by omega) rfl (fun h_4l h_4u => ?_)
    refine g_if_ne (n := 45) (t := 65) hx (dq tX8_goesAhead 26 rfl) (by decide) rfl (zrI h_4l h_4u (by decide) (by decide)) (fun c_5 => ?_) (fun c_5 => ?_)
    · refine g_iconst (n := 66) hx (dq tX8_goesAhead 39 rfl) rfl ?_
      exact g_zret hx hr (dq tX8_goesAhead 40 rfl) (by omega) ⟨rfl, (by omega)⟩
    · refine g_aload_n (n := 46) hx 0 (dq tX8_goesAhead 27 rfl) rfl rfl ?_
      refine g_getR (n := 49) hx glX8_36 (sX8_7 hb) (dq tX8_goesAhead 28 rfl) rfl ?_
      refine g_iload_n (n := 50) hx 1 (dq tX8_goesAhead 29 rfl) rfl rfl ?_
      refine g_lald (n := 51) hx (aX8_7 (b := b) hb) (dq tX8_goesAhead 30 rfl) rfl (by omega) (by omega) (by omega) (fun w_6 => ?_)
      refine g_aload_n (n := 52) hx 0 (dq tX8_goesAhead 31 rfl) rfl rfl ?_
      refine g_getR (n := 55) hx glX8_36 (sX8_7 hb) (dq tX8_goesAhead 32 rfl) rfl ?_
      refine g_iload_n (n := 56) hx 2 (dq tX8_goesAhead 33 rfl) rfl rfl ?_
      refine g_lald (n := 57) hx (aX8_7 (b := b) hb) (dq tX8_goesAhead 34 rfl) rfl (by omega) (by omega) (by omega) (fun w_7 => ?_)
      refine g_lcmpU (n := 58) hx (dq tX8_goesAhead 35 rfl) rfl (fun z_8 h_91 h_92 h_93 h_94 => ?_)
      refine g_if_le (n := 61) (t := 65) hx (dq tX8_goesAhead 36 rfl) (by decide) rfl ⟨by omega, by omega⟩ (fun c_10 => ?_) (fun c_10 => ?_)
      · refine g_iconst (n := 66) hx (dq tX8_goesAhead 39 rfl) rfl ?_
        exact g_zret hx hr (dq tX8_goesAhead 40 rfl) (by omega) ⟨rfl, (by omega)⟩
      · refine g_iconst (n := 62) hx (dq tX8_goesAhead 37 rfl) rfl ?_
        refine g_goto (n := 66) hx (dq tX8_goesAhead 38 rfl) (by decide) ?_
        exact g_zret hx hr (dq tX8_goesAhead 40 rfl) (by omega) ⟨rfl, (by omega)⟩
  · refine g_aload_n (n := 16) hx 0 (dq tX8_goesAhead 9 rfl) rfl rfl ?_
    refine g_getR (n := 19) hx glX8_33 (sX8_6 hb) (dq tX8_goesAhead 10 rfl) rfl ?_
    refine g_iload_n (n := 20) hx 1 (dq tX8_goesAhead 11 rfl) rfl rfl ?_
    refine g_iald (n := 21) (q := log.toNat) hx (aX8_6 (b := b) hb) (dq tX8_goesAhead 12 rfl) rfl (by omega) (by omega) (by omega) rfl (fun h_11l h_11u => ?_)
    refine g_aload_n (n := 22) hx 0 (dq tX8_goesAhead 13 rfl) rfl rfl ?_
    refine g_getR (n := 25) hx glX8_33 (sX8_6 hb) (dq tX8_goesAhead 14 rfl) rfl ?_
    refine g_iload_n (n := 26) hx 2 (dq tX8_goesAhead 15 rfl) rfl rfl ?_
    refine g_iald (n := 27) (q := other.toNat) hx (aX8_6 (b := b) hb) (dq tX8_goesAhead 16 rfl) rfl (by omega) (by omega) (by omega) rfl (fun h_12l h_12u => ?_)
    refine g_icmp_ge (n := 30) (t := 34) hx (dq tX8_goesAhead 17 rfl) (by decide) rfl (zrI h_11l h_11u (by decide) (by decide)) (zrI h_12l h_12u (by decide) (by decide)) (fun c_13 => ?_) (fun c_13 => ?_)
    · refine g_iconst (n := 35) hx (dq tX8_goesAhead 20 rfl) rfl ?_
      exact g_zret hx hr (dq tX8_goesAhead 21 rfl) (by omega) ⟨rfl, (by omega)⟩
    · refine g_iconst (n := 31) hx (dq tX8_goesAhead 18 rfl) rfl ?_
      refine g_goto (n := 35) hx (dq tX8_goesAhead 19 rfl) (by decide) ?_
      exact g_zret hx hr (dq tX8_goesAhead 21 rfl) (by omega) ⟨rfl, (by omega)⟩

abbrev qctX8_rise (M : zM) (b : Nat) (n : Int) (M' : zM) : Prop := (∀ u_ v_, (u_ ≠ b ∨ v_ ≠ 8) ∧ (u_ < b + 3 ∨ b + 11 ≤ u_) ∧ (u_ ≠ b + 11 ∨ v_ ≠ 1) ∧ (u_ < b + 12 ∨ b + 28 ≤ u_) ∧ (u_ ≠ b + 1 ∨ v_ ≠ 1) → M' u_ v_ = M u_ v_) ∧ Gd M' 37 (b + 1)
set_option maxHeartbeats 4000000 in
set_option maxRecDepth 100000 in
theorem ctX8_rise (Γ : Gam) (M : zM) (b : Nat) (hb : isX8 b) (n : Int) (hnl : (-2147483648) ≤ n) (hnu : n ≤ 2147483647) (gd0 : Gd M 37 (b + 1)) : CtV Γ yX8_rise cX8_rise 4 none 4 106 [aR Γ b, vI n] M (qctX8_rise M b n) := by
  refine met_v (by decide) (Nat.le_of_ble_eq_true rfl) (fun x hx hr => ?_)
  show G Γ x 4 (QV Γ x (qctX8_rise M b n)) M 0 [(0, aR Γ b), (1, vI n)] []
  refine g_aload_n (n := 1) hx 0 (dq tX8_rise 0 rfl) rfl rfl ?_
  refine g_getR (n := 4) hx glX8_12 (sX8_1 hb) (dq tX8_rise 1 rfl) rfl ?_
  refine g_aload_n (n := 5) hx 0 (dq tX8_rise 2 rfl) rfl rfl ?_
  refine g_getR (n := 8) hx glX8_12 (sX8_1 hb) (dq tX8_rise 3 rfl) rfl ?_
  refine g_getI (n := 11) hx glX8_195 (sX6_1 (iX8_1 hb)) (dq tX8_rise 4 rfl) rfl (fun h_1l h_1u => ?_)
  refine g_iload_n (n := 12) hx 1 (dq tX8_rise 5 rfl) rfl rfl ?_
  refine g_iadd (n := 13) hx (dq tX8_rise 6 rfl) rfl ?_
  refine g_sipush (n := 16) hx (dq tX8_rise 7 rfl) rfl (by decide) ?_
  refine g_any2 (fun z_2 h_3 => ?_)
  refine g_min (n := 19) hx wd_879 wd_577 wd_17 wd_578 (dq tX8_rise 8 rfl) rfl (Nat.le_of_ble_eq_true rfl) (Nat.le_of_ble_eq_true rfl) h_3 ⟨by decide, by decide⟩ (fun z_4 h_5 h_51 h_52 h_53 => ?_)
  refine g_putI (n := 22) hx plX8_195 (sX6_1 (iX8_1 hb)) (dq tX8_rise 9 rfl) rfl (by omega) (by omega) (fun M_6 m_7e m_7 => ?_)
  have g_8 : Gd M_6 37 (b + 1) := Gd.frame gd0 (fun c j hcj => m_7 c j (by omega))
  refine g_aload_n (n := 23) hx 0 (dq tX8_rise 10 rfl) rfl rfl ?_
  refine g_getR (n := 26) hx glX8_12 (sX8_1 hb) (dq tX8_rise 11 rfl) rfl ?_
  refine g_getR (n := 29) hx glX8_75 (sX6_7 (iX8_1 hb)) (dq tX8_rise 12 rfl) rfl ?_
  refine g_iconst (n := 30) hx (dq tX8_rise 13 rfl) rfl ?_
  have e_9 : M_6 37 1 = M 37 1 := (m_7 37 1 (by omega))
  have e_10 : M_6 37 3 = M 37 3 := (m_7 37 3 (by omega))
  refine g_callSv (n := 33) (As := [aR Γ (b + 1 + 2), vI 0]) (rest := []) hx (ctfill_9_0 Γ M_6 (b + 1 + 2) (aX6_7 (b := b + 1) (iX8_1 hb)) 0 (by decide) (by decide)) mlX8_51 (dq tX8_rise 14 rfl) rfl (Nat.le_of_ble_eq_true rfl) (Nat.le_of_ble_eq_true rfl) (Nat.le_of_ble_eq_true rfl) rfl (fun M_12 p_14 => ?_)
  have f_15 := p_14
  have g_16 : Gd M_12 37 (b + 1) := Gd.frame g_8 (fun c j hcj => f_15 c j (by omega))
  refine g_iconst (n := 34) hx (dq tX8_rise 15 rfl) rfl ?_
  refine g_istore_n (n := 35) (lv' := [(2, vI 0), (0, aR Γ b), (1, vI n)]) hx (dq tX8_rise 16 rfl) (by decide) rfl rfl ?_
  have L_19 : ∀ (n_ : Nat) (i_17 : Int) (M_18 : zM), (0 ≤ i_17) → (i_17 ≤ 12) → (∀ u_ v_, u_ ≠ b + 26 → M_18 u_ v_ = M_12 u_ v_) → (Gd M_18 37 (b + 1)) → ((12 - i_17).toNat = n_) → G Γ x 4 (QV Γ x (qctX8_rise M b n)) M_18 35 [(2, vI i_17), (0, aR Γ b), (1, vI n)] [] := by
    intro n_
    induction n_ using Nat.strongRecOn with
    | _ n_ ih_20 =>
      intro i_17 M_18 h_24 h_25 f_21 g_22 hm_23
      refine g_iload_n (n := 36) hx 0 (dq tX8_rise 17 rfl) rfl rfl ?_
      refine g_aload_n (n := 37) hx 1 (dq tX8_rise 18 rfl) rfl rfl ?_
      refine g_getR (n := 40) hx glX8_39 (sX8_0 hb) (dq tX8_rise 19 rfl) rfl ?_
      refine g_getI (n := 43) hx glX8_69 (sX2_3 (by decide)) (dq tX8_rise 20 rfl) rfl (fun h_26l h_26u => ?_)
      have e_27 : M_18 37 3 = M_6 37 3 := ((f_21 37 3 (by omega))).trans (f_15 37 3 (by omega))
      refine g_icmp_ge (n := 46) (t := 139) hx (dq tX8_rise 21 rfl) (by decide) rfl ⟨by omega, by omega⟩ (zrI h_26l h_26u (by decide) (by decide)) (fun c_28 => ?_) (fun c_28 => ?_)
      · refine g_iconst (n := 140) hx (dq tX8_rise 71 rfl) rfl ?_
        refine g_istore_n (n := 141) (lv' := [(2, vI 0), (0, aR Γ b), (1, vI n)]) hx (dq tX8_rise 72 rfl) (by decide) rfl rfl ?_
        have L_31 : ∀ (n_ : Nat) (i_29 : Int) (M_30 : zM), (0 ≤ i_29) → (i_29 ≤ 12) → (∀ u_ v_, u_ ≠ b + 1 + 7 → M_30 u_ v_ = M_18 u_ v_) → (Gd M_30 37 (b + 1)) → ((12 - i_29).toNat = n_) → G Γ x 4 (QV Γ x (qctX8_rise M b n)) M_30 141 [(2, vI i_29), (0, aR Γ b), (1, vI n)] [] := by
          intro n_
          induction n_ using Nat.strongRecOn with
          | _ n_ ih_32 =>
            intro i_29 M_30 h_36 h_37 f_33 g_34 hm_35
            refine g_iload_n (n := 142) hx 0 (dq tX8_rise 73 rfl) rfl rfl ?_
            refine g_aload_n (n := 143) hx 1 (dq tX8_rise 74 rfl) rfl rfl ?_
            refine g_getR (n := 146) hx glX8_39 (sX8_0 hb) (dq tX8_rise 75 rfl) rfl ?_
            refine g_getI (n := 149) hx glX8_69 (sX2_3 (by decide)) (dq tX8_rise 76 rfl) rfl (fun h_38l h_38u => ?_)
            have e_39 : M_30 37 3 = M_18 37 3 := (f_33 37 3 (by omega))
            refine g_icmp_ge (n := 152) (t := 219) hx (dq tX8_rise 77 rfl) (by decide) rfl ⟨by omega, by omega⟩ (zrI h_38l h_38u (by decide) (by decide)) (fun c_40 => ?_) (fun c_40 => ?_)
            · exact g_vret hx hr (dq tX8_rise 115 rfl) ⟨(fun u_ v_ huv_ => ((((f_33 u_ v_ (by omega)).trans (f_21 u_ v_ (by omega))).trans (f_15 u_ v_ (by omega))).trans (m_7 u_ v_ (by omega)))), g_34⟩
            · refine g_iload_n (n := 153) hx 0 (dq tX8_rise 78 rfl) rfl rfl ?_
              refine g_istore_n (n := 154) (lv' := [(3, vI i_29), (2, vI i_29), (0, aR Γ b), (1, vI n)]) hx (dq tX8_rise 79 rfl) (by decide) rfl rfl ?_
              have L_43 : ∀ (n_ : Nat) (i_41 : Int) (M_42 : zM), (0 ≤ i_41) → (i_41 ≤ 11) → (∀ u_ v_, u_ ≠ b + 1 + 7 → M_42 u_ v_ = M_30 u_ v_) → (Gd M_42 37 (b + 1)) → (i_41 ≤ i_29) → ((i_41 - 0).toNat = n_) → G Γ x 4 (QV Γ x (qctX8_rise M b n)) M_42 154 [(3, vI i_41), (2, vI i_29), (0, aR Γ b), (1, vI n)] [] := by
                intro n_
                induction n_ using Nat.strongRecOn with
                | _ n_ ih_44 =>
                  intro i_41 M_42 h_49 h_50 f_45 g_46 h_48 hm_47
                  refine g_iload_n (n := 155) hx 0 (dq tX8_rise 80 rfl) rfl rfl ?_
                  refine g_if_le (n := 158) (t := 203) hx (dq tX8_rise 81 rfl) (by decide) rfl ⟨by omega, by omega⟩ (fun c_51 => ?_) (fun c_51 => ?_)
                  · refine g_aload_n (n := 204) hx 2 (dq tX8_rise 107 rfl) rfl rfl ?_
                    refine g_getR (n := 207) hx glX8_12 (sX8_1 hb) (dq tX8_rise 108 rfl) rfl ?_
                    refine g_getR (n := 210) hx glX8_198 (sX6_12 (iX8_1 hb)) (dq tX8_rise 109 rfl) rfl ?_
                    refine g_iload_n (n := 211) hx 0 (dq tX8_rise 110 rfl) rfl rfl ?_
                    refine g_iload_n (n := 212) hx 1 (dq tX8_rise 111 rfl) rfl rfl ?_
                    have e_52 : M_42 37 1 = M_6 37 1 := ((((f_45 37 1 (by omega))).trans (f_33 37 1 (by omega))).trans (f_21 37 1 (by omega))).trans (f_15 37 1 (by omega))
                    have e_53 : M_42 37 3 = M_30 37 3 := (f_45 37 3 (by omega))
                    refine g_iast (n := 213) (q := i_41.toNat) hx (aX6_12 (b := b + 1) (iX8_1 hb)) (dq tX8_rise 112 rfl) rfl (by omega) (by omega) (by omega) rfl (by omega) (by omega) (fun M_54 m_55e m_55 => ?_)
                    have g_56 := Gd.order g_46 m_55e m_55 (by omega) (by omega) (by omega) (by omega)
                    refine g_iinc (n := 216) (lv' := [(2, vI (i_29 + 1)), (3, vI i_41), (0, aR Γ b), (1, vI n)]) hx 1 (dq tX8_rise 113 rfl) rfl (by decide) rfl rfl ?_
                    refine g_goto (n := 141) hx (dq tX8_rise 114 rfl) (by decide) ?_
                    refine g_lv [0, 2, 3] rfl ?_
                    exact ih_32 _ (by omega) (i_29 + 1) M_54 (by omega) (by omega) (fun u_ v_ huv_ => (((m_55 u_ v_ (by omega)).trans (f_45 u_ v_ (by omega))).trans (f_33 u_ v_ (by omega)))) g_56 rfl
                  · refine g_aload_n (n := 159) hx 2 (dq tX8_rise 82 rfl) rfl rfl ?_
                    refine g_iload_n (n := 160) hx 1 (dq tX8_rise 83 rfl) rfl rfl ?_
                    refine g_aload_n (n := 161) hx 2 (dq tX8_rise 84 rfl) rfl rfl ?_
                    refine g_getR (n := 164) hx glX8_12 (sX8_1 hb) (dq tX8_rise 85 rfl) rfl ?_
                    refine g_getR (n := 167) hx glX8_198 (sX6_12 (iX8_1 hb)) (dq tX8_rise 86 rfl) rfl ?_
                    refine g_iload_n (n := 168) hx 0 (dq tX8_rise 87 rfl) rfl rfl ?_
                    refine g_iconst (n := 169) hx (dq tX8_rise 88 rfl) rfl ?_
                    refine g_isub (n := 170) hx (dq tX8_rise 89 rfl) rfl ?_
                    refine g_iald (n := 171) (q := (i_41 - 1).toNat) hx (aX6_12 (b := b + 1) (iX8_1 hb)) (dq tX8_rise 90 rfl) rfl (by omega) (by omega) (by omega) rfl (fun h_57l h_57u => ?_)
                    have e_58 : M_42 37 1 = M_6 37 1 := ((((f_45 37 1 (by omega))).trans (f_33 37 1 (by omega))).trans (f_21 37 1 (by omega))).trans (f_15 37 1 (by omega))
                    have e_59 : M_42 37 3 = M_30 37 3 := (f_45 37 3 (by omega))
                    refine g_iv (fun h_61 => ?_)
                    have h_61v : (0 : Int) ≤ M_42 37 1 ∧ M_42 37 1 ≤ 6 := h_61 37 1
                    have h_61l : (0 : Int) ≤ M_42 37 3 ∧ M_42 37 3 ≤ 12 := h_61 37 3
                    clear h_61
                    have h_60 := g_46.2.2.2.1 ((i_41 - 1).toNat) (by omega)
                    refine g_callVi (n := 174) (As := [vI i_29, vI (M_42 (b + 1 + 7) ((i_41 - 1).toNat))]) (rest := []) hx (ctX8_goesAhead Γ M_42 b hb i_29 (by omega) (by omega) (M_42 (b + 1 + 7) ((i_41 - 1).toNat)) (by omega) (by omega)) mlX8_250 (obX8 hb) (dq tX8_rise 91 rfl) rfl (Nat.le_of_ble_eq_true rfl) (Nat.le_of_ble_eq_true rfl) (Nat.le_of_ble_eq_true rfl) rfl (fun z_62 M_63 h_64 p_65 => ?_)
                    obtain ⟨rfl, b_67⟩ := p_65
                    refine g_if_eq (n := 177) (t := 203) hx (dq tX8_rise 92 rfl) (by decide) rfl h_64 (fun c_68 => ?_) (fun c_68 => ?_)
                    · clear b_67
                      refine g_aload_n (n := 204) hx 2 (dq tX8_rise 107 rfl) rfl rfl ?_
                      refine g_getR (n := 207) hx glX8_12 (sX8_1 hb) (dq tX8_rise 108 rfl) rfl ?_
                      refine g_getR (n := 210) hx glX8_198 (sX6_12 (iX8_1 hb)) (dq tX8_rise 109 rfl) rfl ?_
                      refine g_iload_n (n := 211) hx 0 (dq tX8_rise 110 rfl) rfl rfl ?_
                      refine g_iload_n (n := 212) hx 1 (dq tX8_rise 111 rfl) rfl rfl ?_
                      refine g_iast (n := 213) (q := i_41.toNat) hx (aX6_12 (b := b + 1) (iX8_1 hb)) (dq tX8_rise 112 rfl) rfl (by omega) (by omega) (by omega) rfl (by omega) (by omega) (fun M_69 m_70e m_70 => ?_)
                      have g_71 := Gd.order g_46 m_70e m_70 (by omega) (by omega) (by omega) (by omega)
                      refine g_iinc (n := 216) (lv' := [(2, vI (i_29 + 1)), (3, vI i_41), (0, aR Γ b), (1, vI n)]) hx 1 (dq tX8_rise 113 rfl) rfl (by decide) rfl rfl ?_
                      refine g_goto (n := 141) hx (dq tX8_rise 114 rfl) (by decide) ?_
                      refine g_lv [0, 2, 3] rfl ?_
                      exact ih_32 _ (by omega) (i_29 + 1) M_69 (by omega) (by omega) (fun u_ v_ huv_ => (((m_70 u_ v_ (by omega)).trans (f_45 u_ v_ (by omega))).trans (f_33 u_ v_ (by omega)))) g_71 rfl
                    · have b_67 := b_67.resolve_left c_68
                      obtain ⟨-⟩ := b_67
                      refine g_aload_n (n := 178) hx 2 (dq tX8_rise 93 rfl) rfl rfl ?_
                      refine g_getR (n := 181) hx glX8_12 (sX8_1 hb) (dq tX8_rise 94 rfl) rfl ?_
                      refine g_getR (n := 184) hx glX8_198 (sX6_12 (iX8_1 hb)) (dq tX8_rise 95 rfl) rfl ?_
                      refine g_iload_n (n := 185) hx 0 (dq tX8_rise 96 rfl) rfl rfl ?_
                      refine g_aload_n (n := 186) hx 2 (dq tX8_rise 97 rfl) rfl rfl ?_
                      refine g_getR (n := 189) hx glX8_12 (sX8_1 hb) (dq tX8_rise 98 rfl) rfl ?_
                      refine g_getR (n := 192) hx glX8_198 (sX6_12 (iX8_1 hb)) (dq tX8_rise 99 rfl) rfl ?_
                      refine g_iload_n (n := 193) hx 0 (dq tX8_rise 100 rfl) rfl rfl ?_
                      refine g_iconst (n := 194) hx (dq tX8_rise 101 rfl) rfl ?_
                      refine g_isub (n := 195) hx (dq tX8_rise 102 rfl) rfl ?_
                      refine g_iald (n := 196) (q := (i_41 - 1).toNat) hx (aX6_12 (b := b + 1) (iX8_1 hb)) (dq tX8_rise 103 rfl) rfl (by omega) (by omega) (by omega) rfl (fun h_72l h_72u => ?_)
                      refine g_iv (fun h_74 => ?_)
                      have h_74v : (0 : Int) ≤ M_42 37 1 ∧ M_42 37 1 ≤ 6 := h_74 37 1
                      have h_74l : (0 : Int) ≤ M_42 37 3 ∧ M_42 37 3 ≤ 12 := h_74 37 3
                      clear h_74
                      have h_73 := g_46.2.2.2.1 ((i_41 - 1).toNat) (by omega)
                      refine g_iast (n := 197) (q := i_41.toNat) hx (aX6_12 (b := b + 1) (iX8_1 hb)) (dq tX8_rise 104 rfl) rfl (by omega) (by omega) (by omega) rfl (by omega) (by omega) (fun M_75 m_76e m_76 => ?_)
                      have g_77 := Gd.order g_46 m_76e m_76 (by omega) (by omega) (by omega) (by omega)
                      refine g_iinc (n := 200) (lv' := [(3, vI (i_41 + (-1))), (2, vI i_29), (0, aR Γ b), (1, vI n)]) hx 0 (dq tX8_rise 105 rfl) rfl (by decide) rfl rfl ?_
                      refine g_goto (n := 154) hx (dq tX8_rise 106 rfl) (by decide) ?_
                      exact ih_44 _ (by omega) (i_41 + (-1)) M_75 (by omega) (by omega) (fun u_ v_ huv_ => ((m_76 u_ v_ (by omega)).trans (f_45 u_ v_ (by omega)))) g_77 (by first | assumption | omega) rfl
              exact L_43 _ i_29 M_30 (by omega) (by omega) (fun _ _ _ => rfl) g_34 (by first | assumption | omega) rfl
        exact L_31 _ 0 M_18 (by omega) (by omega) (fun _ _ _ => rfl) g_22 rfl
      · refine g_aload_n (n := 47) hx 1 (dq tX8_rise 22 rfl) rfl rfl ?_
        refine g_getR (n := 50) hx glX8_12 (sX8_1 hb) (dq tX8_rise 23 rfl) rfl ?_
        refine g_iload_n (n := 51) hx 0 (dq tX8_rise 24 rfl) rfl rfl ?_
        have e_78 : M_18 37 1 = M_6 37 1 := ((f_21 37 1 (by omega))).trans (f_15 37 1 (by omega))
        refine g_callVi (n := 54) (As := [vI i_17]) (rest := []) hx (ctX6_isGone Γ M_18 (b + 1) (iX8_1 hb) i_17 (by omega) (by omega)) mlX8_146 (obX6 (iX8_1 hb)) (dq tX8_rise 25 rfl) rfl (Nat.le_of_ble_eq_true rfl) (Nat.le_of_ble_eq_true rfl) (Nat.le_of_ble_eq_true rfl) rfl (fun z_79 M_80 h_81 p_82 => ?_)
        obtain ⟨rfl, b_84⟩ := p_82
        refine g_if_eq (n := 57) (t := 67) hx (dq tX8_rise 26 rfl) (by decide) rfl h_81 (fun c_86 => ?_) (fun c_86 => ?_)
        · clear b_84
          refine g_aload_n (n := 68) hx 1 (dq tX8_rise 33 rfl) rfl rfl ?_
          refine g_getR (n := 71) hx glX8_12 (sX8_1 hb) (dq tX8_rise 34 rfl) rfl ?_
          refine g_getI (n := 74) hx glX8_218 (sX6_2 (iX8_1 hb)) (dq tX8_rise 35 rfl) rfl (fun h_87l h_87u => ?_)
          refine g_iconst (n := 75) hx (dq tX8_rise 36 rfl) rfl ?_
          refine g_icmp_eq (n := 78) (t := 126) hx (dq tX8_rise 37 rfl) (by decide) rfl (zrI h_87l h_87u (by decide) (by decide)) ⟨by decide, by decide⟩ (fun c_88 => ?_) (fun c_88 => ?_)
          · refine g_aload_n (n := 127) hx 1 (dq tX8_rise 64 rfl) rfl rfl ?_
            refine g_getR (n := 130) hx glX8_33 (sX8_6 hb) (dq tX8_rise 65 rfl) rfl ?_
            refine g_iload_n (n := 131) hx 0 (dq tX8_rise 66 rfl) rfl rfl ?_
            refine g_iconst (n := 132) hx (dq tX8_rise 67 rfl) rfl ?_
            refine g_iast (n := 133) (q := i_17.toNat) hx (aX8_6 (b := b) hb) (dq tX8_rise 68 rfl) rfl (by omega) (by omega) (by omega) rfl (by omega) (by omega) (fun M_89 m_90e m_90 => ?_)
            have g_91 : Gd M_89 37 (b + 1) := Gd.frame g_22 (fun c j hcj => m_90 c j (by omega))
            refine g_iinc (n := 136) (lv' := [(2, vI (i_17 + 1)), (0, aR Γ b), (1, vI n)]) hx 0 (dq tX8_rise 69 rfl) rfl (by decide) rfl rfl ?_
            refine g_goto (n := 35) hx (dq tX8_rise 70 rfl) (by decide) ?_
            exact ih_20 _ (by omega) (i_17 + 1) M_89 (by omega) (by omega) (fun u_ v_ huv_ => ((m_90 u_ v_ (by omega)).trans (f_21 u_ v_ (by omega)))) g_91 rfl
          · refine g_aload_n (n := 79) hx 1 (dq tX8_rise 38 rfl) rfl rfl ?_
            refine g_aload_n (n := 80) hx 1 (dq tX8_rise 39 rfl) rfl rfl ?_
            refine g_getR (n := 83) hx glX8_12 (sX8_1 hb) (dq tX8_rise 40 rfl) rfl ?_
            refine g_getI (n := 86) hx glX8_218 (sX6_2 (iX8_1 hb)) (dq tX8_rise 41 rfl) rfl (fun h_92l h_92u => ?_)
            refine g_iconst (n := 87) hx (dq tX8_rise 42 rfl) rfl ?_
            refine g_iload_n (n := 88) hx 0 (dq tX8_rise 43 rfl) rfl rfl ?_
            refine g_iconst (n := 89) hx (dq tX8_rise 44 rfl) rfl ?_
            refine g_callVi (n := 92) (As := [vI (M_18 (b + 1) 2), vI 3, vI i_17, vI (-1)]) (rest := []) hx (ctX8_asks Γ M_18 b hb (M_18 (b + 1) 2) (by omega) (by omega) 3 (by decide) (by decide) i_17 (by omega) (by omega) (-1) (by decide) (by decide) (by omega) (by omega) g_22) mlX8_221 (obX8 hb) (dq tX8_rise 45 rfl) rfl (Nat.le_of_ble_eq_true rfl) (Nat.le_of_ble_eq_true rfl) (Nat.le_of_ble_eq_true rfl) rfl (fun z_93 M_94 h_95 p_96 => ?_)
            obtain ⟨rfl, b_98⟩ := p_96
            refine g_if_eq (n := 95) (t := 126) hx (dq tX8_rise 46 rfl) (by decide) rfl h_95 (fun c_99 => ?_) (fun c_99 => ?_)
            · clear b_98
              refine g_aload_n (n := 127) hx 1 (dq tX8_rise 64 rfl) rfl rfl ?_
              refine g_getR (n := 130) hx glX8_33 (sX8_6 hb) (dq tX8_rise 65 rfl) rfl ?_
              refine g_iload_n (n := 131) hx 0 (dq tX8_rise 66 rfl) rfl rfl ?_
              refine g_iconst (n := 132) hx (dq tX8_rise 67 rfl) rfl ?_
              refine g_iast (n := 133) (q := i_17.toNat) hx (aX8_6 (b := b) hb) (dq tX8_rise 68 rfl) rfl (by omega) (by omega) (by omega) rfl (by omega) (by omega) (fun M_100 m_101e m_101 => ?_)
              have g_102 : Gd M_100 37 (b + 1) := Gd.frame g_22 (fun c j hcj => m_101 c j (by omega))
              refine g_iinc (n := 136) (lv' := [(2, vI (i_17 + 1)), (0, aR Γ b), (1, vI n)]) hx 0 (dq tX8_rise 69 rfl) rfl (by decide) rfl rfl ?_
              refine g_goto (n := 35) hx (dq tX8_rise 70 rfl) (by decide) ?_
              exact ih_20 _ (by omega) (i_17 + 1) M_100 (by omega) (by omega) (fun u_ v_ huv_ => ((m_101 u_ v_ (by omega)).trans (f_21 u_ v_ (by omega)))) g_102 rfl
            · have b_98 := b_98.resolve_left c_99
              obtain ⟨-⟩ := b_98
              refine g_aload_n (n := 96) hx 1 (dq tX8_rise 47 rfl) rfl rfl ?_
              refine g_getR (n := 99) hx glX8_33 (sX8_6 hb) (dq tX8_rise 48 rfl) rfl ?_
              refine g_iload_n (n := 100) hx 0 (dq tX8_rise 49 rfl) rfl rfl ?_
              refine g_iconst (n := 101) hx (dq tX8_rise 50 rfl) rfl ?_
              refine g_iast (n := 102) (q := i_17.toNat) hx (aX8_6 (b := b) hb) (dq tX8_rise 51 rfl) rfl (by omega) (by omega) (by omega) rfl (by omega) (by omega) (fun M_103 m_104e m_104 => ?_)
              have g_105 : Gd M_103 37 (b + 1) := Gd.frame g_22 (fun c j hcj => m_104 c j (by omega))
              refine g_aload_n (n := 103) hx 1 (dq tX8_rise 52 rfl) rfl rfl ?_
              refine g_getR (n := 106) hx glX8_36 (sX8_7 hb) (dq tX8_rise 53 rfl) rfl ?_
              refine g_iload_n (n := 107) hx 0 (dq tX8_rise 54 rfl) rfl rfl ?_
              refine g_aload_n (n := 108) hx 1 (dq tX8_rise 55 rfl) rfl rfl ?_
              refine g_getR (n := 111) hx glX8_43 (sX8_4 hb) (dq tX8_rise 56 rfl) rfl ?_
              refine g_aload_n (n := 112) hx 1 (dq tX8_rise 57 rfl) rfl rfl ?_
              refine g_getR (n := 115) hx glX8_12 (sX8_1 hb) (dq tX8_rise 58 rfl) rfl ?_
              refine g_getI (n := 118) hx glX8_218 (sX6_2 (iX8_1 hb)) (dq tX8_rise 59 rfl) rfl (fun h_106l h_106u => ?_)
              have e_107 : M_103 (b + 1) 2 = M_18 (b + 1) 2 := (m_104 (b + 1) 2 (by omega))
              refine g_aald (n := 119) (q := (M_103 (b + 1) 2).toNat) hx (aX8_4 (b := b) hb) (by decide) (dq tX8_rise 60 rfl) rfl (by omega) (by omega) (by omega) rfl ?_
              refine g_named (c := zrf 1 ((M_103 (b + 1) 2).toNat)) (fun o_108 eo_108 => ?_)
              have o_109 : isX4 o_108 := by rw [eo_108]; exact zrfX4 ((M_103 (b + 1) 2).toNat) (by omega)
              refine g_getJ (n := 122) hx glX8_139 (sX4_5 o_109) (dq tX8_rise 61 rfl) rfl (fun w_110 => ?_)
              refine g_last (n := 123) hx (aX8_7 (b := b) hb) (dq tX8_rise 62 rfl) rfl (by omega) (by omega) (by omega) ?_
              refine g_goto (n := 133) hx (dq tX8_rise 63 rfl) (by decide) ?_
              refine g_iinc (n := 136) (lv' := [(2, vI (i_17 + 1)), (0, aR Γ b), (1, vI n)]) hx 0 (dq tX8_rise 69 rfl) rfl (by decide) rfl rfl ?_
              refine g_goto (n := 35) hx (dq tX8_rise 70 rfl) (by decide) ?_
              exact ih_20 _ (by omega) (i_17 + 1) M_103 (by omega) (by omega) (fun u_ v_ huv_ => ((m_104 u_ v_ (by omega)).trans (f_21 u_ v_ (by omega)))) g_105 rfl
        · have b_84 := b_84.resolve_left c_86
          obtain ⟨-, h_85⟩ := b_84
          refine g_aload_n (n := 58) hx 1 (dq tX8_rise 27 rfl) rfl rfl ?_
          refine g_getR (n := 61) hx glX8_33 (sX8_6 hb) (dq tX8_rise 28 rfl) rfl ?_
          refine g_iload_n (n := 62) hx 0 (dq tX8_rise 29 rfl) rfl rfl ?_
          refine g_iconst (n := 63) hx (dq tX8_rise 30 rfl) rfl ?_
          refine g_iast (n := 64) (q := i_17.toNat) hx (aX8_6 (b := b) hb) (dq tX8_rise 31 rfl) rfl (by omega) (by omega) (by omega) rfl (by omega) (by omega) (fun M_111 m_112e m_112 => ?_)
          have g_113 : Gd M_111 37 (b + 1) := Gd.frame g_22 (fun c j hcj => m_112 c j (by omega))
          refine g_goto (n := 133) hx (dq tX8_rise 32 rfl) (by decide) ?_
          refine g_iinc (n := 136) (lv' := [(2, vI (i_17 + 1)), (0, aR Γ b), (1, vI n)]) hx 0 (dq tX8_rise 69 rfl) rfl (by decide) rfl rfl ?_
          refine g_goto (n := 35) hx (dq tX8_rise 70 rfl) (by decide) ?_
          exact ih_20 _ (by omega) (i_17 + 1) M_111 (by omega) (by omega) (fun u_ v_ huv_ => ((m_112 u_ v_ (by omega)).trans (f_21 u_ v_ (by omega)))) g_113 rfl
  exact L_19 _ 0 M_12 (by omega) (by omega) (fun _ _ _ => rfl) g_16 rfl
