set_option maxHeartbeats 4000000 in
theorem ctX10_lay (Γ : Gam) (M : zM) (a0 a1 n : Nat) {l0 u0 l1 u1 : Int} (ha0 : AI a0 n l0 u0) (ha1 : AI a1 n l1 u1) (hl : l1 ≤ l0) (hu : u0 ≤ u1) (hn : n ≤ 1000) (hne : a0 ≠ a1) : CtV Γ yX10_lay cX10_lay 3 none 0 0 [aR Γ a0, aR Γ a1] M (qctX9_copyRow M a0 a1 n) := by
  refine met_v (by decide) (Nat.le_of_ble_eq_true rfl) (fun x hx hr => ?_)
  show G Γ x 3 (QV Γ x (qctX9_copyRow M a0 a1 n)) M 0 [(0, aR Γ a0), (1, aR Γ a1)] []
  refine g_iconst (n := 1) hx (dq tX10_lay 0 rfl) rfl ?_
  refine g_istore_n (n := 2) (lv' := [(2, vI 0), (0, aR Γ a0), (1, aR Γ a1)]) hx (dq tX10_lay 1 rfl) (by decide) rfl rfl ?_
  have L : ∀ (n_ : Nat) (k : Int) (M1 : zM), 0 ≤ k → k ≤ n → (∀ u v, u ≠ a1 → M1 u v = M u v) → (∀ j : Nat, (j : Int) < k → M1 a1 j = M a0 j) → ((n : Int) - k).toNat = n_ → G Γ x 3 (QV Γ x (qctX9_copyRow M a0 a1 n)) M1 2 [(2, vI k), (0, aR Γ a0), (1, aR Γ a1)] [] := by
    intro n_
    induction n_ using Nat.strongRecOn with
    | _ n_ ih =>
      intro k M1 h0 h1 hf he hm
      refine g_iload_n (n := 3) hx 0 (dq tX10_lay 2 rfl) rfl rfl ?_
      refine g_aload_n (n := 4) hx 1 (dq tX10_lay 3 rfl) rfl rfl ?_
      refine g_alen (n := 5) hx (akI ha0) (dq tX10_lay 4 rfl) rfl ?_
      refine g_icmp_ge (n := 8) (t := 20) hx (dq tX10_lay 5 rfl) (by decide) rfl ⟨by omega, by omega⟩ ⟨by omega, by omega⟩ (fun c1 => ?_) (fun c1 => ?_)
      · exact g_vret hx hr (dq tX10_lay 14 rfl) ⟨hf, fun j hj => he j (by omega)⟩
      · refine g_aload_n (n := 9) hx 2 (dq tX10_lay 6 rfl) rfl rfl ?_
        refine g_iload_n (n := 10) hx 0 (dq tX10_lay 7 rfl) rfl rfl ?_
        refine g_aload_n (n := 11) hx 1 (dq tX10_lay 8 rfl) rfl rfl ?_
        refine g_iload_n (n := 12) hx 0 (dq tX10_lay 9 rfl) rfl rfl ?_
        refine g_iald (n := 13) (q := k.toNat) hx ha0 (dq tX10_lay 10 rfl) rfl (by omega) (by omega) (by omega) rfl (fun hl1 hu1 => ?_)
        refine g_iast (n := 14) (q := k.toNat) hx ha1 (dq tX10_lay 11 rfl) rfl (by omega) (by omega) (by omega) rfl (by omega) (by omega) (fun M2 e2 f2 => ?_)
        refine g_iinc (n := 17) (lv' := [(2, vI (k + 1)), (0, aR Γ a0), (1, aR Γ a1)]) hx 0 (dq tX10_lay 12 rfl) rfl (by decide) rfl rfl ?_
        refine g_goto (n := 2) hx (dq tX10_lay 13 rfl) (by decide) ?_
        refine ih _ (by omega) (k + 1) M2 (by omega) (by omega) (fun u v h => (f2 u v (Or.inl h)).trans (hf u v h)) (fun j hj => ?_) rfl
        by_cases z : j = k.toNat
        · subst z; exact e2.trans (hf a0 _ hne)
        · exact (f2 a1 j (Or.inr z)).trans (he j (by omega))
  exact L _ 0 M (by omega) (by omega) (fun _ _ _ => rfl) (fun j hj => absurd hj (by omega)) rfl

abbrev qcarryT (M : zM) (c n : Nat) (at_ : Int) (M' : zM) : Prop := (∀ u v : Nat, u ≠ 229 + 56 → (u ≠ 229 ∨ v ≠ 78) → M' u v = M u v) ∧ (∀ j : Nat, ((j : Int) < at_ ∨ at_ + n ≤ j) → M' (229 + 56) j = M (229 + 56) j) ∧ (∀ j : Nat, j < n → M' (229 + 56) (at_.toNat + j) = M c j) ∧ M' 229 78 = at_ + n
abbrev qcarryG (M : zM) (c n : Nat) (at_ : Int) (M' : zM) : Prop := (∀ u v : Nat, u ≠ c → (u ≠ 229 ∨ v ≠ 78) → M' u v = M u v) ∧ (∀ j : Nat, j < n → M' c j = M (229 + 56) (at_.toNat + j)) ∧ M' 229 78 = at_ + n
set_option maxHeartbeats 4000000 in
theorem ctX10_carryT (Γ : Gam) (M : zM) (c n : Nat) (at_ : Int) (hc : AK c 0 n) (hn : n ≤ 1000) (h0 : 0 ≤ at_) (h1 : at_ + n ≤ 4500) (ha : M 229 78 = at_) (hg : M 229 79 = 0) (hc1 : c ≠ 229 + 56) (hc2 : c ≠ 229) : CtV Γ yX10_carry cX10_carry 3 none 0 0 [aR Γ 229, aR Γ c] M (qcarryT M c n at_) := by
  refine met_v (by decide) (Nat.le_of_ble_eq_true rfl) (fun x hx hr => ?_)
  show G Γ x 3 (QV Γ x (qcarryT M c n at_)) M 0 [(0, aR Γ 229), (1, aR Γ c)] []
  refine g_iconst (n := 1) hx (dq tX10_carry 0 rfl) rfl ?_
  refine g_istore_n (n := 2) (lv' := [(2, vI 0), (0, aR Γ 229), (1, aR Γ c)]) hx (dq tX10_carry 1 rfl) (by decide) rfl rfl ?_
  have L : ∀ (n_ : Nat) (k : Int) (M1 : zM), 0 ≤ k → k ≤ n → (∀ u v : Nat, u ≠ 229 + 56 → (u ≠ 229 ∨ v ≠ 78) → M1 u v = M u v) → (∀ j : Nat, ((j : Int) < at_ ∨ at_ + n ≤ j) → M1 (229 + 56) j = M (229 + 56) j) → (∀ j : Nat, (j : Int) < k → M1 (229 + 56) (at_.toNat + j) = M c j) → M1 229 78 = at_ + k → ((n : Int) - k).toNat = n_ → G Γ x 3 (QV Γ x (qcarryT M c n at_)) M1 2 [(2, vI k), (0, aR Γ 229), (1, aR Γ c)] [] := by
    intro n_
    induction n_ using Nat.strongRecOn with
    | _ n_ ih =>
      intro k M1 k0 k1 hf hb he hi hm
      have g1 : M1 229 79 = 0 := (hf 229 79 (by omega) (by omega)).trans hg
      refine g_iload_n (n := 3) hx 0 (dq tX10_carry 2 rfl) rfl rfl ?_
      refine g_aload_n (n := 4) hx 2 (dq tX10_carry 3 rfl) rfl rfl ?_
      refine g_alen (n := 5) hx hc (dq tX10_carry 4 rfl) rfl ?_
      refine g_icmp_ge (n := 8) (t := 58) hx (dq tX10_carry 5 rfl) (by decide) rfl ⟨by omega, by omega⟩ ⟨by omega, by omega⟩ (fun c1 => ?_) (fun c1 => ?_)
      · exact g_vret hx hr (dq tX10_carry 34 rfl) ⟨hf, hb, fun j hj => he j (by omega), by omega⟩
      · refine g_aload_n (n := 9) hx 1 (dq tX10_carry 6 rfl) rfl rfl ?_
        refine g_getI (n := 12) hx glX10_641 (sX10_79 (by decide)) (dq tX10_carry 7 rfl) rfl (fun b1 b2 => ?_)
        refine g_if_eq (n := 15) (t := 30) hx (dq tX10_carry 8 rfl) (by decide) rfl ⟨by omega, by omega⟩ (fun _ => ?_) (fun c2 => absurd g1 c2)
        refine g_aload_n (n := 31) hx 1 (dq tX10_carry 18 rfl) rfl rfl ?_
        refine g_getR (n := 34) hx glX10_181 (sX10_76 (by decide)) (dq tX10_carry 19 rfl) rfl ?_
        refine g_aload_n (n := 35) hx 1 (dq tX10_carry 20 rfl) rfl rfl ?_
        refine g_getI (n := 38) hx glX10_644 (sX10_78 (by decide)) (dq tX10_carry 21 rfl) rfl (fun b3 b4 => ?_)
        refine g_aload_n (n := 39) hx 2 (dq tX10_carry 22 rfl) rfl rfl ?_
        refine g_iload_n (n := 40) hx 0 (dq tX10_carry 23 rfl) rfl rfl ?_
        refine g_ialdX (n := 41) (q := k.toNat) hx hc (dq tX10_carry 24 rfl) rfl (by omega) (by omega) (by omega) rfl (fun hl1 hu1 => ?_)
        have rg := zrg_ok c k.toNat
        refine g_iast (n := 42) (q := (M1 229 78).toNat) hx (aX10_76 (b := 229) (by decide)) (dq tX10_carry 25 rfl) rfl (by omega) (by omega) (by omega) rfl (by omega) (by omega) (fun M2 e2 f2 => ?_)
        refine g_aload_n (n := 43) hx 1 (dq tX10_carry 26 rfl) rfl rfl ?_
        refine g_dup (n := 44) hx (dq tX10_carry 27 rfl) rfl rfl ?_
        refine g_getI (n := 47) hx glX10_644 (sX10_78 (by decide)) (dq tX10_carry 28 rfl) rfl (fun b5 b6 => ?_)
        have q7 : M2 229 78 = M1 229 78 := f2 229 78 (by omega)
        refine g_iconst (n := 48) hx (dq tX10_carry 29 rfl) rfl ?_
        refine g_iadd (n := 49) hx (dq tX10_carry 30 rfl) rfl ?_
        refine g_putI (n := 52) hx plX10_644 (sX10_78 (by decide)) (dq tX10_carry 31 rfl) rfl (by omega) (by omega) (fun M3 e3 f3 => ?_)
        refine g_iinc (n := 55) (lv' := [(2, vI (k + 1)), (0, aR Γ 229), (1, aR Γ c)]) hx 0 (dq tX10_carry 32 rfl) rfl (by decide) rfl rfl ?_
        refine g_goto (n := 2) hx (dq tX10_carry 33 rfl) (by decide) ?_
        refine ih _ (by omega) (k + 1) M3 (by omega) (by omega) (fun u v h h' => ?_) (fun j hj => ?_) (fun j hj => ?_) (by omega) rfl
        · exact (f3 u v (by omega)).trans ((f2 u v (Or.inl h)).trans (hf u v h h'))
        · exact (f3 _ j (by omega)).trans ((f2 _ j (by omega)).trans (hb j hj))
        · by_cases z : j = k.toNat
          · subst z
            have z1 : at_.toNat + k.toNat = (M1 229 78).toNat := by omega
            rw [z1]
            exact (f3 _ _ (by omega)).trans (e2.trans (hf c _ hc1 (Or.inl hc2)))
          · exact (f3 _ _ (by omega)).trans ((f2 _ _ (by omega)).trans (he j (by omega)))
  exact L _ 0 M (by omega) (by omega) (fun _ _ _ _ => rfl) (fun _ _ => rfl) (fun j hj => absurd hj (by omega)) (by omega) rfl
set_option maxHeartbeats 4000000 in
theorem ctX10_carryG (Γ : Gam) (M : zM) (c n : Nat) (at_ : Int) (hc : AK c 0 n) (hn : n ≤ 1000) (h0 : 0 ≤ at_) (h1 : at_ + n ≤ 4500) (ha : M 229 78 = at_) (hg : M 229 79 = 1) (hc1 : c ≠ 229 + 56) (hc2 : c ≠ 229) (hr0 : ∀ j : Nat, j < n → zlo c j ≤ M (229 + 56) (at_.toNat + j) ∧ M (229 + 56) (at_.toNat + j) ≤ zhi c j) : CtV Γ yX10_carry cX10_carry 3 none 0 0 [aR Γ 229, aR Γ c] M (qcarryG M c n at_) := by
  refine met_v (by decide) (Nat.le_of_ble_eq_true rfl) (fun x hx hr => ?_)
  show G Γ x 3 (QV Γ x (qcarryG M c n at_)) M 0 [(0, aR Γ 229), (1, aR Γ c)] []
  refine g_iconst (n := 1) hx (dq tX10_carry 0 rfl) rfl ?_
  refine g_istore_n (n := 2) (lv' := [(2, vI 0), (0, aR Γ 229), (1, aR Γ c)]) hx (dq tX10_carry 1 rfl) (by decide) rfl rfl ?_
  have L : ∀ (n_ : Nat) (k : Int) (M1 : zM), 0 ≤ k → k ≤ n → (∀ u v : Nat, u ≠ c → (u ≠ 229 ∨ v ≠ 78) → M1 u v = M u v) → (∀ j : Nat, (j : Int) < k → M1 c j = M (229 + 56) (at_.toNat + j)) → M1 229 78 = at_ + k → ((n : Int) - k).toNat = n_ → G Γ x 3 (QV Γ x (qcarryG M c n at_)) M1 2 [(2, vI k), (0, aR Γ 229), (1, aR Γ c)] [] := by
    intro n_
    induction n_ using Nat.strongRecOn with
    | _ n_ ih =>
      intro k M1 k0 k1 hf he hi hm
      have g1 : M1 229 79 = 1 := (hf 229 79 (fun e => hc2 e.symm) (by omega)).trans hg
      refine g_iload_n (n := 3) hx 0 (dq tX10_carry 2 rfl) rfl rfl ?_
      refine g_aload_n (n := 4) hx 2 (dq tX10_carry 3 rfl) rfl rfl ?_
      refine g_alen (n := 5) hx hc (dq tX10_carry 4 rfl) rfl ?_
      refine g_icmp_ge (n := 8) (t := 58) hx (dq tX10_carry 5 rfl) (by decide) rfl ⟨by omega, by omega⟩ ⟨by omega, by omega⟩ (fun c1 => ?_) (fun c1 => ?_)
      · exact g_vret hx hr (dq tX10_carry 34 rfl) ⟨hf, fun j hj => he j (by omega), by omega⟩
      · refine g_aload_n (n := 9) hx 1 (dq tX10_carry 6 rfl) rfl rfl ?_
        refine g_getI (n := 12) hx glX10_641 (sX10_79 (by decide)) (dq tX10_carry 7 rfl) rfl (fun b1 b2 => ?_)
        refine g_if_eq (n := 15) (t := 30) hx (dq tX10_carry 8 rfl) (by decide) rfl ⟨by omega, by omega⟩ (fun c2 => absurd (g1.symm.trans c2) (by decide)) (fun _ => ?_)
        refine g_aload_n (n := 16) hx 2 (dq tX10_carry 9 rfl) rfl rfl ?_
        refine g_iload_n (n := 17) hx 0 (dq tX10_carry 10 rfl) rfl rfl ?_
        refine g_aload_n (n := 18) hx 1 (dq tX10_carry 11 rfl) rfl rfl ?_
        refine g_getR (n := 21) hx glX10_181 (sX10_76 (by decide)) (dq tX10_carry 12 rfl) rfl ?_
        refine g_aload_n (n := 22) hx 1 (dq tX10_carry 13 rfl) rfl rfl ?_
        refine g_getI (n := 25) hx glX10_644 (sX10_78 (by decide)) (dq tX10_carry 14 rfl) rfl (fun b3 b4 => ?_)
        refine g_iald (n := 26) (q := (M1 229 78).toNat) hx (aX10_76 (b := 229) (by decide)) (dq tX10_carry 15 rfl) rfl (by omega) (by omega) (by omega) rfl (fun hl1 hu1 => ?_)
        have z1 : (M1 229 78).toNat = at_.toNat + k.toNat := by omega
        have z2 : M1 (229 + 56) (M1 229 78).toNat = M (229 + 56) (at_.toNat + k.toNat) := by rw [z1]; exact hf _ _ (fun e => hc1 e.symm) (by omega)
        have z3 := hr0 k.toNat (by omega)
        refine g_iastX (n := 27) (q := k.toNat) hx hc (dq tX10_carry 16 rfl) rfl (by omega) (by omega) (by omega) rfl (by omega) (by omega) (fun M2 e2 f2 => ?_)
        refine g_goto (n := 42) hx (dq tX10_carry 17 rfl) (by decide) ?_
        refine g_aload_n (n := 43) hx 1 (dq tX10_carry 26 rfl) rfl rfl ?_
        refine g_dup (n := 44) hx (dq tX10_carry 27 rfl) rfl rfl ?_
        refine g_getI (n := 47) hx glX10_644 (sX10_78 (by decide)) (dq tX10_carry 28 rfl) rfl (fun b5 b6 => ?_)
        have q7 : M2 229 78 = M1 229 78 := f2 229 78 (Or.inl (fun e => hc2 e.symm))
        refine g_iconst (n := 48) hx (dq tX10_carry 29 rfl) rfl ?_
        refine g_iadd (n := 49) hx (dq tX10_carry 30 rfl) rfl ?_
        refine g_putI (n := 52) hx plX10_644 (sX10_78 (by decide)) (dq tX10_carry 31 rfl) rfl (by omega) (by omega) (fun M3 e3 f3 => ?_)
        refine g_iinc (n := 55) (lv' := [(2, vI (k + 1)), (0, aR Γ 229), (1, aR Γ c)]) hx 0 (dq tX10_carry 32 rfl) rfl (by decide) rfl rfl ?_
        refine g_goto (n := 2) hx (dq tX10_carry 33 rfl) (by decide) ?_
        refine ih _ (by omega) (k + 1) M3 (by omega) (by omega) (fun u v h h' => ?_) (fun j hj => ?_) (by omega) rfl
        · exact (f3 u v (by omega)).trans ((f2 u v (Or.inl h)).trans (hf u v h h'))
        · by_cases z : j = k.toNat
          · subst z; exact (f3 c _ (Or.inl hc2)).trans (e2.trans z2)
          · exact (f3 c _ (Or.inl hc2)).trans ((f2 c _ (Or.inr z)).trans (he j (by omega)))
  exact L _ 0 M (by omega) (by omega) (fun _ _ _ _ => rfl) (fun j hj => absurd hj (by omega)) (by omega) rfl

abbrev qctX10_keepsPlaces (M : zM)  (M' : zM) : Prop := (∀ u_ v_, u_ ≠ 229 + 28 ∧ u_ ≠ 229 + 50 ∧ (u_ ≠ 229 + 1 ∨ v_ ≠ 14) → M' u_ v_ = M u_ v_)
set_option maxHeartbeats 4000000 in
set_option maxRecDepth 100000 in
theorem ctX10_keepsPlaces (Γ : Gam) (M : zM)   : CtV Γ yX10_keepsPlaces cX10_keepsPlaces 2 none 1 22 [aR Γ 229] M (qctX10_keepsPlaces M) := by
  refine met_v (by decide) (Nat.le_of_ble_eq_true rfl) (fun x hx hr => ?_)
  show G Γ x 2 (QV Γ x (qctX10_keepsPlaces M)) M 0 [(0, aR Γ 229)] []
  refine g_sipush (n := 3) hx (dq tX10_keepsPlaces 0 rfl) rfl (by decide) ?_
  refine g_istore_n (n := 4) (lv' := [(1, vI 359), (0, aR Γ 229)]) hx (dq tX10_keepsPlaces 1 rfl) (by decide) rfl rfl ?_
  have L_3 : ∀ (n_ : Nat) (i_1 : Int) (M_2 : zM), (11 ≤ i_1) → (i_1 ≤ 359) → (∀ u_ v_, u_ ≠ 229 + 28 → M_2 u_ v_ = M u_ v_) → ((i_1 - 11).toNat = n_) → G Γ x 2 (QV Γ x (qctX10_keepsPlaces M)) M_2 4 [(1, vI i_1), (0, aR Γ 229)] [] := by
    intro n_
    induction n_ using Nat.strongRecOn with
    | _ n_ ih_4 =>
      intro i_1 M_2 h_7 h_8 f_5 hm_6
      refine g_iload_n (n := 5) hx 0 (dq tX10_keepsPlaces 2 rfl) rfl rfl ?_
      refine g_bipush (n := 7) hx (dq tX10_keepsPlaces 3 rfl) rfl (by decide) ?_
      refine g_icmp_lt (n := 10) (t := 31) hx (dq tX10_keepsPlaces 4 rfl) (by decide) rfl ⟨by omega, by omega⟩ ⟨by decide, by decide⟩ (fun c_9 => ?_) (fun c_9 => ?_)
      · refine g_aload_n (n := 32) hx 1 (dq tX10_keepsPlaces 17 rfl) rfl rfl ?_
        refine g_getR (n := 35) hx glX10_43 (sX10_12 (by decide)) (dq tX10_keepsPlaces 18 rfl) rfl ?_
        refine g_aload_n (n := 36) hx 1 (dq tX10_keepsPlaces 19 rfl) rfl rfl ?_
        refine g_getR (n := 39) hx glX10_163 (sX10_68 (by decide)) (dq tX10_keepsPlaces 20 rfl) rfl ?_
        have e_10 : M_2 (229 + 1) 1 = M (229 + 1) 1 := (f_5 (229 + 1) 1 (by omega))
        have e_11 : M_2 (229 + 1) 3 = M (229 + 1) 3 := (f_5 (229 + 1) 3 (by omega))
        refine g_callSv (n := 42) (As := [aR Γ (229 + 12), aR Γ (229 + 50)]) (rest := []) hx (ctX10_lay Γ M_2 (229 + 12) (229 + 50) 12 (aX10_12 (b := 229) (by decide)) (aX10_68 (b := 229) (by decide)) (by decide) (by decide) (by decide) (by decide)) mlX10_368 (dq tX10_keepsPlaces 21 rfl) rfl (Nat.le_of_ble_eq_true rfl) (Nat.le_of_ble_eq_true rfl) (Nat.le_of_ble_eq_true rfl) rfl (fun M_13 p_15 => ?_)
        obtain ⟨f_16, e_17⟩ := p_15
        refine g_iconst (n := 43) hx (dq tX10_keepsPlaces 22 rfl) rfl ?_
        refine g_istore_n (n := 44) (lv' := [(1, vI 0), (0, aR Γ 229)]) hx (dq tX10_keepsPlaces 23 rfl) (by decide) rfl rfl ?_
        have L_20 : ∀ (n_ : Nat) (i_18 : Int) (M_19 : zM), (0 ≤ i_18) → (i_18 ≤ 12) → (∀ u_ v_, u_ ≠ 229 + 28 → M_19 u_ v_ = M_13 u_ v_) → ((12 - i_18).toNat = n_) → G Γ x 2 (QV Γ x (qctX10_keepsPlaces M)) M_19 44 [(1, vI i_18), (0, aR Γ 229)] [] := by
          intro n_
          induction n_ using Nat.strongRecOn with
          | _ n_ ih_21 =>
            intro i_18 M_19 h_24 h_25 f_22 hm_23
            refine g_iload_n (n := 45) hx 0 (dq tX10_keepsPlaces 24 rfl) rfl rfl ?_
            refine g_bipush (n := 47) hx (dq tX10_keepsPlaces 25 rfl) rfl (by decide) ?_
            refine g_icmp_ge (n := 50) (t := 68) hx (dq tX10_keepsPlaces 26 rfl) (by decide) rfl ⟨by omega, by omega⟩ ⟨by decide, by decide⟩ (fun c_26 => ?_) (fun c_26 => ?_)
            · refine g_aload_n (n := 69) hx 1 (dq tX10_keepsPlaces 37 rfl) rfl rfl ?_
              refine g_getR (n := 72) hx glX10_9 (sX10_1 (by decide)) (dq tX10_keepsPlaces 38 rfl) rfl ?_
              refine g_bipush (n := 74) hx (dq tX10_keepsPlaces 39 rfl) rfl (by decide) ?_
              refine g_dup2 (n := 75) hx (dq tX10_keepsPlaces 40 rfl) rfl rfl rfl ?_
              refine g_ialdX (n := 76) (q := 14) hx (aX10_1 (b := 229) (by decide)) (dq tX10_keepsPlaces 41 rfl) rfl (by decide) (by decide) (by decide) rfl (fun h_27l h_27u => ?_)
              have h_27l : 0 ≤ M_19 (229 + 1) 14 := h_27l
              have h_27u : M_19 (229 + 1) 14 ≤ 30 := h_27u
              refine g_aload_n (n := 77) hx 1 (dq tX10_keepsPlaces 42 rfl) rfl rfl ?_
              refine g_getR (n := 80) hx glX10_9 (sX10_1 (by decide)) (dq tX10_keepsPlaces 43 rfl) rfl ?_
              refine g_bipush (n := 82) hx (dq tX10_keepsPlaces 44 rfl) rfl (by decide) ?_
              refine g_ialdX (n := 83) (q := 14) hx (aX10_1 (b := 229) (by decide)) (dq tX10_keepsPlaces 45 rfl) rfl (by decide) (by decide) (by decide) rfl (fun h_28l h_28u => ?_)
              have h_28l : 0 ≤ M_19 (229 + 1) 14 := h_28l
              have h_28u : M_19 (229 + 1) 14 ≤ 30 := h_28u
              refine g_bipush (n := 85) hx (dq tX10_keepsPlaces 46 rfl) rfl (by decide) ?_
              refine g_icmp_ge (n := 88) (t := 92) hx (dq tX10_keepsPlaces 47 rfl) (by decide) rfl (zrI h_28l h_28u (by decide) (by decide)) ⟨by decide, by decide⟩ (fun c_29 => ?_) (fun c_29 => ?_)
              · refine g_iconst (n := 93) hx (dq tX10_keepsPlaces 50 rfl) rfl ?_
                refine g_iadd (n := 94) hx (dq tX10_keepsPlaces 51 rfl) rfl ?_
                have e_30 : M_19 (229 + 1) 1 = M_2 (229 + 1) 1 := ((f_22 (229 + 1) 1 (by omega))).trans (f_16 (229 + 1) 1 (by omega))
                have e_31 : M_19 (229 + 1) 3 = M_2 (229 + 1) 3 := ((f_22 (229 + 1) 3 (by omega))).trans (f_16 (229 + 1) 3 (by omega))
                refine g_iastX (n := 95) (q := 14) hx (aX10_1 (b := 229) (by decide)) (dq tX10_keepsPlaces 52 rfl) rfl (by decide) (by decide) (by decide) rfl (show 0 ≤ (M_19 (229 + 1) 14) + 0 by omega) (show (M_19 (229 + 1) 14) + 0 ≤ 30 by omega) (fun M_32 m_33e m_33 => ?_)
                have e_34 : M_32 (229 + 1) 1 = M_19 (229 + 1) 1 := (m_33 (229 + 1) 1 (by omega))
                have e_35 : M_32 (229 + 1) 3 = M_19 (229 + 1) 3 := (m_33 (229 + 1) 3 (by omega))
                exact g_vret hx hr (dq tX10_keepsPlaces 53 rfl) (fun u_ v_ huv_ => ((((m_33 u_ v_ (by omega)).trans (f_22 u_ v_ (by omega))).trans (f_16 u_ v_ (by omega))).trans (f_5 u_ v_ (by omega))))
              · refine g_iconst (n := 89) hx (dq tX10_keepsPlaces 48 rfl) rfl ?_
                refine g_goto (n := 93) hx (dq tX10_keepsPlaces 49 rfl) (by decide) ?_
                refine g_iadd (n := 94) hx (dq tX10_keepsPlaces 51 rfl) rfl ?_
                have e_36 : M_19 (229 + 1) 1 = M_2 (229 + 1) 1 := ((f_22 (229 + 1) 1 (by omega))).trans (f_16 (229 + 1) 1 (by omega))
                have e_37 : M_19 (229 + 1) 3 = M_2 (229 + 1) 3 := ((f_22 (229 + 1) 3 (by omega))).trans (f_16 (229 + 1) 3 (by omega))
                refine g_iastX (n := 95) (q := 14) hx (aX10_1 (b := 229) (by decide)) (dq tX10_keepsPlaces 52 rfl) rfl (by decide) (by decide) (by decide) rfl (show 0 ≤ (M_19 (229 + 1) 14) + 1 by omega) (show (M_19 (229 + 1) 14) + 1 ≤ 30 by omega) (fun M_38 m_39e m_39 => ?_)
                have e_40 : M_38 (229 + 1) 1 = M_19 (229 + 1) 1 := (m_39 (229 + 1) 1 (by omega))
                have e_41 : M_38 (229 + 1) 3 = M_19 (229 + 1) 3 := (m_39 (229 + 1) 3 (by omega))
                exact g_vret hx hr (dq tX10_keepsPlaces 53 rfl) (fun u_ v_ huv_ => ((((m_39 u_ v_ (by omega)).trans (f_22 u_ v_ (by omega))).trans (f_16 u_ v_ (by omega))).trans (f_5 u_ v_ (by omega))))
            · refine g_aload_n (n := 51) hx 1 (dq tX10_keepsPlaces 27 rfl) rfl rfl ?_
              refine g_getR (n := 54) hx glX10_91 (sX10_28 (by decide)) (dq tX10_keepsPlaces 28 rfl) rfl ?_
              refine g_iload_n (n := 55) hx 0 (dq tX10_keepsPlaces 29 rfl) rfl rfl ?_
              refine g_aload_n (n := 56) hx 1 (dq tX10_keepsPlaces 30 rfl) rfl rfl ?_
              refine g_getR (n := 59) hx glX10_163 (sX10_68 (by decide)) (dq tX10_keepsPlaces 31 rfl) rfl ?_
              refine g_iload_n (n := 60) hx 0 (dq tX10_keepsPlaces 32 rfl) rfl rfl ?_
              refine g_iald (n := 61) (q := i_18.toNat) hx (aX10_68 (b := 229) (by decide)) (dq tX10_keepsPlaces 33 rfl) rfl (by omega) (by omega) (by omega) rfl (fun h_42l h_42u => ?_)
              have e_43 : M_19 (229 + 1) 1 = M_2 (229 + 1) 1 := ((f_22 (229 + 1) 1 (by omega))).trans (f_16 (229 + 1) 1 (by omega))
              have e_44 : M_19 (229 + 1) 3 = M_2 (229 + 1) 3 := ((f_22 (229 + 1) 3 (by omega))).trans (f_16 (229 + 1) 3 (by omega))
              refine g_iast (n := 62) (q := i_18.toNat) hx (aX10_28 (b := 229) (by decide)) (dq tX10_keepsPlaces 34 rfl) rfl (by omega) (by omega) (by omega) rfl (by omega) (by omega) (fun M_45 m_46e m_46 => ?_)
              refine g_iinc (n := 65) (lv' := [(1, vI (i_18 + 1)), (0, aR Γ 229)]) hx 0 (dq tX10_keepsPlaces 35 rfl) rfl (by decide) rfl rfl ?_
              refine g_goto (n := 44) hx (dq tX10_keepsPlaces 36 rfl) (by decide) ?_
              have e_47 : M_45 (229 + 1) 1 = M_19 (229 + 1) 1 := (m_46 (229 + 1) 1 (by omega))
              have e_48 : M_45 (229 + 1) 3 = M_19 (229 + 1) 3 := (m_46 (229 + 1) 3 (by omega))
              exact ih_21 _ (by omega) (i_18 + 1) M_45 (by omega) (by omega) (fun u_ v_ huv_ => ((m_46 u_ v_ (by omega)).trans (f_22 u_ v_ (by omega)))) rfl
        have e_49 : M_13 (229 + 1) 1 = M_2 (229 + 1) 1 := (f_16 (229 + 1) 1 (by omega))
        have e_50 : M_13 (229 + 1) 3 = M_2 (229 + 1) 3 := (f_16 (229 + 1) 3 (by omega))
        exact L_20 _ 0 M_13 (by omega) (by omega) (fun _ _ _ => rfl) rfl
      · refine g_aload_n (n := 11) hx 1 (dq tX10_keepsPlaces 5 rfl) rfl rfl ?_
        refine g_getR (n := 14) hx glX10_91 (sX10_28 (by decide)) (dq tX10_keepsPlaces 6 rfl) rfl ?_
        refine g_iload_n (n := 15) hx 0 (dq tX10_keepsPlaces 7 rfl) rfl rfl ?_
        refine g_aload_n (n := 16) hx 1 (dq tX10_keepsPlaces 8 rfl) rfl rfl ?_
        refine g_getR (n := 19) hx glX10_91 (sX10_28 (by decide)) (dq tX10_keepsPlaces 9 rfl) rfl ?_
        refine g_iload_n (n := 20) hx 0 (dq tX10_keepsPlaces 10 rfl) rfl rfl ?_
        refine g_bipush (n := 22) hx (dq tX10_keepsPlaces 11 rfl) rfl (by decide) ?_
        refine g_isub (n := 23) hx (dq tX10_keepsPlaces 12 rfl) rfl ?_
        refine g_iald (n := 24) (q := (i_1 - 12).toNat) hx (aX10_28 (b := 229) (by decide)) (dq tX10_keepsPlaces 13 rfl) rfl (by omega) (by omega) (by omega) rfl (fun h_51l h_51u => ?_)
        have e_52 : M_2 (229 + 1) 1 = M (229 + 1) 1 := (f_5 (229 + 1) 1 (by omega))
        have e_53 : M_2 (229 + 1) 3 = M (229 + 1) 3 := (f_5 (229 + 1) 3 (by omega))
        refine g_iast (n := 25) (q := i_1.toNat) hx (aX10_28 (b := 229) (by decide)) (dq tX10_keepsPlaces 14 rfl) rfl (by omega) (by omega) (by omega) rfl (by omega) (by omega) (fun M_54 m_55e m_55 => ?_)
        refine g_iinc (n := 28) (lv' := [(1, vI (i_1 + (-1))), (0, aR Γ 229)]) hx 0 (dq tX10_keepsPlaces 15 rfl) rfl (by decide) rfl rfl ?_
        refine g_goto (n := 4) hx (dq tX10_keepsPlaces 16 rfl) (by decide) ?_
        have e_56 : M_54 (229 + 1) 1 = M_2 (229 + 1) 1 := (m_55 (229 + 1) 1 (by omega))
        have e_57 : M_54 (229 + 1) 3 = M_2 (229 + 1) 3 := (m_55 (229 + 1) 3 (by omega))
        exact ih_4 _ (by omega) (i_1 + (-1)) M_54 (by omega) (by omega) (fun u_ v_ huv_ => ((m_55 u_ v_ (by omega)).trans (f_5 u_ v_ (by omega)))) rfl
  exact L_3 _ 359 M (by omega) (by omega) (fun _ _ _ => rfl) rfl
