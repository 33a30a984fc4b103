set_option maxHeartbeats 4000000 in
set_option maxRecDepth 100000 in
theorem ctX9_copyRow (Γ : Gam) (M : zM) (a0 a1 n : Nat) {l0 u0 l1 u1 : Int} (ha0 : AI a0 n l0 u0) (ha1 : AI a1 n l1 u1) (hl : l1 ≤ l0) (hu : u0 ≤ u1) (hn : n ≤ 1000) : CtV Γ yX9_copyRow cX9_copyRow 2 none 1 60 [aR Γ a0, aR Γ a1] M (qctX9_copyRow M a0 a1 n) := by
  refine met_v (by decide) (Nat.le_of_ble_eq_true rfl) (fun x hx hr => ?_)
  show G Γ x 2 (QV Γ x (qctX9_copyRow M a0 a1 n)) M 0 [(0, aR Γ a0), (1, aR Γ a1)] []
  refine g_aload_n (n := 1) hx 0 (dq tX9_copyRow 0 rfl) rfl rfl ?_
  refine g_iconst (n := 2) hx (dq tX9_copyRow 1 rfl) rfl ?_
  refine g_aload_n (n := 3) hx 1 (dq tX9_copyRow 2 rfl) rfl rfl ?_
  refine g_iconst (n := 4) hx (dq tX9_copyRow 3 rfl) rfl ?_
  refine g_aload_n (n := 5) hx 0 (dq tX9_copyRow 4 rfl) rfl rfl ?_
  refine g_alen (n := 6) hx (akI ha0) (dq tX9_copyRow 5 rfl) rfl ?_
  refine g_aload_n (n := 7) hx 1 (dq tX9_copyRow 6 rfl) rfl rfl ?_
  refine g_alen (n := 8) hx (akI ha1) (dq tX9_copyRow 7 rfl) rfl ?_
  refine g_min (n := 11) hx wd_576 wd_577 wd_17 wd_578 (dq tX9_copyRow 8 rfl) rfl (Nat.le_of_ble_eq_true rfl) (Nat.le_of_ble_eq_true rfl) ⟨by omega, by omega⟩ ⟨by omega, by omega⟩ (fun z hz h1 h2 h3 => ?_)
  obtain rfl : z = (n : Int) := by omega
  refine g_iv (fun hI => ?_)
  refine g_copy (n := 14) hx wd_579 wd_581 wd_580 wd_18 (akI ha0) (akI ha1) (dq tX9_copyRow 9 rfl) rfl (Nat.le_of_ble_eq_true rfl) (Nat.le_of_ble_eq_true rfl) (by omega) (by omega) (by omega) (by omega) (by omega) (by omega) (by omega) (by omega) (fun j => cpR hI ha0 ha1 hl hu j _ _) (fun M1 he hf => ?_)
  refine g_vret hx hr (dq tX9_copyRow 10 rfl) ⟨fun u_ v_ h => hf u_ v_ h, fun j hj => ?_⟩
  rw [he j, if_pos (by omega)]
  show M a0 (0 + (j - 0)) = M a0 j
  rw [Nat.zero_add, Nat.sub_zero]

abbrev qctfill_9_9 (M : zM) (a : Nat) (v : Int) (M' : zM) : Prop := (∀ u_ v_, u_ ≠ a → M' u_ v_ = M u_ v_)
set_option maxHeartbeats 4000000 in
set_option maxRecDepth 100000 in
theorem ctfill_9_9 (Γ : Gam) (M : zM) (a : Nat) (ha : AI a 9 (-1) 9) (v : Int) (hvl : (-1) ≤ v) (hvu : v ≤ 9)  : CtV Γ yJ7_fill_53178 cJ7_fill_53178 4 none 0 0 [aR Γ a, vI v] M (qctfill_9_9 M a v) := by
  refine met_v (by decide) (Nat.le_of_ble_eq_true rfl) (fun x hx hr => ?_)
  show G Γ x 4 (QV Γ x (qctfill_9_9 M a v)) M 0 [(0, aR Γ a), (1, vI v)] []
  refine g_iconst (n := 1) hx (dq tJ7_fill_53178 0 rfl) rfl ?_
  refine g_istore_n (n := 2) (lv' := [(2, vI 0), (0, aR Γ a), (1, vI v)]) hx (dq tJ7_fill_53178 1 rfl) (by decide) rfl rfl ?_
  refine g_aload_n (n := 3) hx 1 (dq tJ7_fill_53178 2 rfl) rfl rfl ?_
  refine g_alen (n := 4) hx (akI ha) (dq tJ7_fill_53178 3 rfl) rfl ?_
  refine g_istore_n (n := 5) (lv' := [(3, vI 9), (2, vI 0), (0, aR Γ a), (1, vI v)]) hx (dq tJ7_fill_53178 4 rfl) (by decide) rfl rfl ?_
  have L_3 : ∀ (n_ : Nat) (i_1 : Int) (M_2 : zM), (0 ≤ i_1) → (i_1 ≤ 9) → (∀ u_ v_, u_ ≠ a → M_2 u_ v_ = M u_ v_) → ((9 - i_1).toNat = n_) → G Γ x 4 (QV Γ x (qctfill_9_9 M a v)) M_2 5 [(3, vI 9), (2, vI i_1), (0, aR Γ a), (1, vI v)] [] := by
    intro n_
    induction n_ using Nat.strongRecOn with
    | _ n_ ih_4 =>
      intro i_1 M_2 h_7 h_8 f_5 hm_6
      refine g_iload_n (n := 6) hx 1 (dq tJ7_fill_53178 5 rfl) rfl rfl ?_
      refine g_iload_n (n := 7) hx 0 (dq tJ7_fill_53178 6 rfl) rfl rfl ?_
      refine g_icmp_ge (n := 10) (t := 20) hx (dq tJ7_fill_53178 7 rfl) (by decide) rfl ⟨by omega, by omega⟩ ⟨by decide, by decide⟩ (fun c_9 => ?_) (fun c_9 => ?_)
      · exact g_vret hx hr (dq tJ7_fill_53178 14 rfl) (fun u_ v_ huv_ => (f_5 u_ v_ (by omega)))
      · refine g_aload_n (n := 11) hx 2 (dq tJ7_fill_53178 8 rfl) rfl rfl ?_
        refine g_iload_n (n := 12) hx 1 (dq tJ7_fill_53178 9 rfl) rfl rfl ?_
        refine g_iload_n (n := 13) hx 3 (dq tJ7_fill_53178 10 rfl) rfl rfl ?_
        refine g_iast (n := 14) (q := i_1.toNat) hx ha (dq tJ7_fill_53178 11 rfl) rfl (by omega) (by omega) (by omega) rfl (by omega) (by omega) (fun M_10 m_11e m_11 => ?_)
        refine g_iinc (n := 17) (lv' := [(2, vI (i_1 + 1)), (3, vI 9), (0, aR Γ a), (1, vI v)]) hx 1 (dq tJ7_fill_53178 12 rfl) rfl (by decide) rfl rfl ?_
        refine g_goto (n := 5) hx (dq tJ7_fill_53178 13 rfl) (by decide) ?_
        refine g_lv [1, 0, 2, 3] rfl ?_
        exact ih_4 _ (by omega) (i_1 + 1) M_10 (by omega) (by omega) (fun u_ v_ huv_ => ((m_11 u_ v_ (by omega)).trans (f_5 u_ v_ (by omega)))) rfl
  exact L_3 _ 0 M (by omega) (by omega) (fun _ _ _ => rfl) rfl

abbrev qctfill_6_5 (M : zM) (a : Nat) (v : Int) (M' : zM) : Prop := (∀ u_ v_, u_ ≠ a → M' u_ v_ = M u_ v_)
set_option maxHeartbeats 4000000 in
set_option maxRecDepth 100000 in
theorem ctfill_6_5 (Γ : Gam) (M : zM) (a : Nat) (ha : AI a 6 (-1) 5) (v : Int) (hvl : (-1) ≤ v) (hvu : v ≤ 5)  : CtV Γ yJ7_fill_53178 cJ7_fill_53178 4 none 0 0 [aR Γ a, vI v] M (qctfill_6_5 M a v) := by
  refine met_v (by decide) (Nat.le_of_ble_eq_true rfl) (fun x hx hr => ?_)
  show G Γ x 4 (QV Γ x (qctfill_6_5 M a v)) M 0 [(0, aR Γ a), (1, vI v)] []
  refine g_iconst (n := 1) hx (dq tJ7_fill_53178 0 rfl) rfl ?_
  refine g_istore_n (n := 2) (lv' := [(2, vI 0), (0, aR Γ a), (1, vI v)]) hx (dq tJ7_fill_53178 1 rfl) (by decide) rfl rfl ?_
  refine g_aload_n (n := 3) hx 1 (dq tJ7_fill_53178 2 rfl) rfl rfl ?_
  refine g_alen (n := 4) hx (akI ha) (dq tJ7_fill_53178 3 rfl) rfl ?_
  refine g_istore_n (n := 5) (lv' := [(3, vI 6), (2, vI 0), (0, aR Γ a), (1, vI v)]) hx (dq tJ7_fill_53178 4 rfl) (by decide) rfl rfl ?_
  have L_3 : ∀ (n_ : Nat) (i_1 : Int) (M_2 : zM), (0 ≤ i_1) → (i_1 ≤ 6) → (∀ u_ v_, u_ ≠ a → M_2 u_ v_ = M u_ v_) → ((6 - i_1).toNat = n_) → G Γ x 4 (QV Γ x (qctfill_6_5 M a v)) M_2 5 [(3, vI 6), (2, vI i_1), (0, aR Γ a), (1, vI v)] [] := by
    intro n_
    induction n_ using Nat.strongRecOn with
    | _ n_ ih_4 =>
      intro i_1 M_2 h_7 h_8 f_5 hm_6
      refine g_iload_n (n := 6) hx 1 (dq tJ7_fill_53178 5 rfl) rfl rfl ?_
      refine g_iload_n (n := 7) hx 0 (dq tJ7_fill_53178 6 rfl) rfl rfl ?_
      refine g_icmp_ge (n := 10) (t := 20) hx (dq tJ7_fill_53178 7 rfl) (by decide) rfl ⟨by omega, by omega⟩ ⟨by decide, by decide⟩ (fun c_9 => ?_) (fun c_9 => ?_)
      · exact g_vret hx hr (dq tJ7_fill_53178 14 rfl) (fun u_ v_ huv_ => (f_5 u_ v_ (by omega)))
      · refine g_aload_n (n := 11) hx 2 (dq tJ7_fill_53178 8 rfl) rfl rfl ?_
        refine g_iload_n (n := 12) hx 1 (dq tJ7_fill_53178 9 rfl) rfl rfl ?_
        refine g_iload_n (n := 13) hx 3 (dq tJ7_fill_53178 10 rfl) rfl rfl ?_
        refine g_iast (n := 14) (q := i_1.toNat) hx ha (dq tJ7_fill_53178 11 rfl) rfl (by omega) (by omega) (by omega) rfl (by omega) (by omega) (fun M_10 m_11e m_11 => ?_)
        refine g_iinc (n := 17) (lv' := [(2, vI (i_1 + 1)), (3, vI 6), (0, aR Γ a), (1, vI v)]) hx 1 (dq tJ7_fill_53178 12 rfl) rfl (by decide) rfl rfl ?_
        refine g_goto (n := 5) hx (dq tJ7_fill_53178 13 rfl) (by decide) ?_
        refine g_lv [1, 0, 2, 3] rfl ?_
        exact ih_4 _ (by omega) (i_1 + 1) M_10 (by omega) (by omega) (fun u_ v_ huv_ => ((m_11 u_ v_ (by omega)).trans (f_5 u_ v_ (by omega)))) rfl
  exact L_3 _ 0 M (by omega) (by omega) (fun _ _ _ => rfl) rfl

abbrev qctfill_9_0 (M : zM) (a : Nat) (v : Int) (M' : zM) : Prop := (∀ u_ v_, u_ ≠ a → M' u_ v_ = M u_ v_)
set_option maxHeartbeats 4000000 in
set_option maxRecDepth 100000 in
theorem ctfill_9_0 (Γ : Gam) (M : zM) (a : Nat) (ha : AI a 9 (-2147483648) 2147483647) (v : Int) (hvl : (-2147483648) ≤ v) (hvu : v ≤ 2147483647)  : CtV Γ yJ7_fill_53178 cJ7_fill_53178 4 none 0 0 [aR Γ a, vI v] M (qctfill_9_0 M a v) := by
  refine met_v (by decide) (Nat.le_of_ble_eq_true rfl) (fun x hx hr => ?_)
  show G Γ x 4 (QV Γ x (qctfill_9_0 M a v)) M 0 [(0, aR Γ a), (1, vI v)] []
  refine g_iconst (n := 1) hx (dq tJ7_fill_53178 0 rfl) rfl ?_
  refine g_istore_n (n := 2) (lv' := [(2, vI 0), (0, aR Γ a), (1, vI v)]) hx (dq tJ7_fill_53178 1 rfl) (by decide) rfl rfl ?_
  refine g_aload_n (n := 3) hx 1 (dq tJ7_fill_53178 2 rfl) rfl rfl ?_
  refine g_alen (n := 4) hx (akI ha) (dq tJ7_fill_53178 3 rfl) rfl ?_
  refine g_istore_n (n := 5) (lv' := [(3, vI 9), (2, vI 0), (0, aR Γ a), (1, vI v)]) hx (dq tJ7_fill_53178 4 rfl) (by decide) rfl rfl ?_
  have L_3 : ∀ (n_ : Nat) (i_1 : Int) (M_2 : zM), (0 ≤ i_1) → (i_1 ≤ 9) → (∀ u_ v_, u_ ≠ a → M_2 u_ v_ = M u_ v_) → ((9 - i_1).toNat = n_) → G Γ x 4 (QV Γ x (qctfill_9_0 M a v)) M_2 5 [(3, vI 9), (2, vI i_1), (0, aR Γ a), (1, vI v)] [] := by
    intro n_
    induction n_ using Nat.strongRecOn with
    | _ n_ ih_4 =>
      intro i_1 M_2 h_7 h_8 f_5 hm_6
      refine g_iload_n (n := 6) hx 1 (dq tJ7_fill_53178 5 rfl) rfl rfl ?_
      refine g_iload_n (n := 7) hx 0 (dq tJ7_fill_53178 6 rfl) rfl rfl ?_
      refine g_icmp_ge (n := 10) (t := 20) hx (dq tJ7_fill_53178 7 rfl) (by decide) rfl ⟨by omega, by omega⟩ ⟨by decide, by decide⟩ (fun c_9 => ?_) (fun c_9 => ?_)
      · exact g_vret hx hr (dq tJ7_fill_53178 14 rfl) (fun u_ v_ huv_ => (f_5 u_ v_ (by omega)))
      · refine g_aload_n (n := 11) hx 2 (dq tJ7_fill_53178 8 rfl) rfl rfl ?_
        refine g_iload_n (n := 12) hx 1 (dq tJ7_fill_53178 9 rfl) rfl rfl ?_
        refine g_iload_n (n := 13) hx 3 (dq tJ7_fill_53178 10 rfl) rfl rfl ?_
        refine g_iast (n := 14) (q := i_1.toNat) hx ha (dq tJ7_fill_53178 11 rfl) rfl (by omega) (by omega) (by omega) rfl (by omega) (by omega) (fun M_10 m_11e m_11 => ?_)
        refine g_iinc (n := 17) (lv' := [(2, vI (i_1 + 1)), (3, vI 9), (0, aR Γ a), (1, vI v)]) hx 1 (dq tJ7_fill_53178 12 rfl) rfl (by decide) rfl rfl ?_
        refine g_goto (n := 5) hx (dq tJ7_fill_53178 13 rfl) (by decide) ?_
        refine g_lv [1, 0, 2, 3] rfl ?_
        exact ih_4 _ (by omega) (i_1 + 1) M_10 (by omega) (by omega) (fun u_ v_ huv_ => ((m_11 u_ v_ (by omega)).trans (f_5 u_ v_ (by omega)))) rfl
  exact L_3 _ 0 M (by omega) (by omega) (fun _ _ _ => rfl) rfl

abbrev qctfill_12_0 (M : zM) (a : Nat) (v : Int) (M' : zM) : Prop := (∀ u_ v_, u_ ≠ a → M' u_ v_ = M u_ v_)
set_option maxHeartbeats 4000000 in
set_option maxRecDepth 100000 in
theorem ctfill_12_0 (Γ : Gam) (M : zM) (a : Nat) (ha : AI a 12 (-2147483648) 2147483647) (v : Int) (hvl : (-2147483648) ≤ v) (hvu : v ≤ 2147483647)  : CtV Γ yJ7_fill_53178 cJ7_fill_53178 4 none 0 0 [aR Γ a, vI v] M (qctfill_12_0 M a v) := by
  refine met_v (by decide) (Nat.le_of_ble_eq_true rfl) (fun x hx hr => ?_)
  show G Γ x 4 (QV Γ x (qctfill_12_0 M a v)) M 0 [(0, aR Γ a), (1, vI v)] []
  refine g_iconst (n := 1) hx (dq tJ7_fill_53178 0 rfl) rfl ?_
  refine g_istore_n (n := 2) (lv' := [(2, vI 0), (0, aR Γ a), (1, vI v)]) hx (dq tJ7_fill_53178 1 rfl) (by decide) rfl rfl ?_
  refine g_aload_n (n := 3) hx 1 (dq tJ7_fill_53178 2 rfl) rfl rfl ?_
  refine g_alen (n := 4) hx (akI ha) (dq tJ7_fill_53178 3 rfl) rfl ?_
  refine g_istore_n (n := 5) (lv' := [(3, vI 12), (2, vI 0), (0, aR Γ a), (1, vI v)]) hx (dq tJ7_fill_53178 4 rfl) (by decide) rfl rfl ?_
  have L_3 : ∀ (n_ : Nat) (i_1 : Int) (M_2 : zM), (0 ≤ i_1) → (i_1 ≤ 12) → (∀ u_ v_, u_ ≠ a → M_2 u_ v_ = M u_ v_) → ((12 - i_1).toNat = n_) → G Γ x 4 (QV Γ x (qctfill_12_0 M a v)) M_2 5 [(3, vI 12), (2, vI i_1), (0, aR Γ a), (1, vI v)] [] := by
    intro n_
    induction n_ using Nat.strongRecOn with
    | _ n_ ih_4 =>
      intro i_1 M_2 h_7 h_8 f_5 hm_6
      refine g_iload_n (n := 6) hx 1 (dq tJ7_fill_53178 5 rfl) rfl rfl ?_
      refine g_iload_n (n := 7) hx 0 (dq tJ7_fill_53178 6 rfl) rfl rfl ?_
      refine g_icmp_ge (n := 10) (t := 20) hx (dq tJ7_fill_53178 7 rfl) (by decide) rfl ⟨by omega, by omega⟩ ⟨by decide, by decide⟩ (fun c_9 => ?_) (fun c_9 => ?_)
      · exact g_vret hx hr (dq tJ7_fill_53178 14 rfl) (fun u_ v_ huv_ => (f_5 u_ v_ (by omega)))
      · refine g_aload_n (n := 11) hx 2 (dq tJ7_fill_53178 8 rfl) rfl rfl ?_
        refine g_iload_n (n := 12) hx 1 (dq tJ7_fill_53178 9 rfl) rfl rfl ?_
        refine g_iload_n (n := 13) hx 3 (dq tJ7_fill_53178 10 rfl) rfl rfl ?_
        refine g_iast (n := 14) (q := i_1.toNat) hx ha (dq tJ7_fill_53178 11 rfl) rfl (by omega) (by omega) (by omega) rfl (by omega) (by omega) (fun M_10 m_11e m_11 => ?_)
        refine g_iinc (n := 17) (lv' := [(2, vI (i_1 + 1)), (3, vI 12), (0, aR Γ a), (1, vI v)]) hx 1 (dq tJ7_fill_53178 12 rfl) rfl (by decide) rfl rfl ?_
        refine g_goto (n := 5) hx (dq tJ7_fill_53178 13 rfl) (by decide) ?_
        refine g_lv [1, 0, 2, 3] rfl ?_
        exact ih_4 _ (by omega) (i_1 + 1) M_10 (by omega) (by omega) (fun u_ v_ huv_ => ((m_11 u_ v_ (by omega)).trans (f_5 u_ v_ (by omega)))) rfl
  exact L_3 _ 0 M (by omega) (by omega) (fun _ _ _ => rfl) rfl

abbrev qctfill_6_0 (M : zM) (a : Nat) (v : Int) (M' : zM) : Prop := (∀ u_ v_, u_ ≠ a → M' u_ v_ = M u_ v_)
set_option maxHeartbeats 4000000 in
set_option maxRecDepth 100000 in
theorem ctfill_6_0 (Γ : Gam) (M : zM) (a : Nat) (ha : AI a 6 (-2147483648) 2147483647) (v : Int) (hvl : (-2147483648) ≤ v) (hvu : v ≤ 2147483647)  : CtV Γ yJ7_fill_53178 cJ7_fill_53178 4 none 0 0 [aR Γ a, vI v] M (qctfill_6_0 M a v) := by
  refine met_v (by decide) (Nat.le_of_ble_eq_true rfl) (fun x hx hr => ?_)
  show G Γ x 4 (QV Γ x (qctfill_6_0 M a v)) M 0 [(0, aR Γ a), (1, vI v)] []
  refine g_iconst (n := 1) hx (dq tJ7_fill_53178 0 rfl) rfl ?_
  refine g_istore_n (n := 2) (lv' := [(2, vI 0), (0, aR Γ a), (1, vI v)]) hx (dq tJ7_fill_53178 1 rfl) (by decide) rfl rfl ?_
  refine g_aload_n (n := 3) hx 1 (dq tJ7_fill_53178 2 rfl) rfl rfl ?_
  refine g_alen (n := 4) hx (akI ha) (dq tJ7_fill_53178 3 rfl) rfl ?_
  refine g_istore_n (n := 5) (lv' := [(3, vI 6), (2, vI 0), (0, aR Γ a), (1, vI v)]) hx (dq tJ7_fill_53178 4 rfl) (by decide) rfl rfl ?_
  have L_3 : ∀ (n_ : Nat) (i_1 : Int) (M_2 : zM), (0 ≤ i_1) → (i_1 ≤ 6) → (∀ u_ v_, u_ ≠ a → M_2 u_ v_ = M u_ v_) → ((6 - i_1).toNat = n_) → G Γ x 4 (QV Γ x (qctfill_6_0 M a v)) M_2 5 [(3, vI 6), (2, vI i_1), (0, aR Γ a), (1, vI v)] [] := by
    intro n_
    induction n_ using Nat.strongRecOn with
    | _ n_ ih_4 =>
      intro i_1 M_2 h_7 h_8 f_5 hm_6
      refine g_iload_n (n := 6) hx 1 (dq tJ7_fill_53178 5 rfl) rfl rfl ?_
      refine g_iload_n (n := 7) hx 0 (dq tJ7_fill_53178 6 rfl) rfl rfl ?_
      refine g_icmp_ge (n := 10) (t := 20) hx (dq tJ7_fill_53178 7 rfl) (by decide) rfl ⟨by omega, by omega⟩ ⟨by decide, by decide⟩ (fun c_9 => ?_) (fun c_9 => ?_)
      · exact g_vret hx hr (dq tJ7_fill_53178 14 rfl) (fun u_ v_ huv_ => (f_5 u_ v_ (by omega)))
      · refine g_aload_n (n := 11) hx 2 (dq tJ7_fill_53178 8 rfl) rfl rfl ?_
        refine g_iload_n (n := 12) hx 1 (dq tJ7_fill_53178 9 rfl) rfl rfl ?_
        refine g_iload_n (n := 13) hx 3 (dq tJ7_fill_53178 10 rfl) rfl rfl ?_
        refine g_iast (n := 14) (q := i_1.toNat) hx ha (dq tJ7_fill_53178 11 rfl) rfl (by omega) (by omega) (by omega) rfl (by omega) (by omega) (fun M_10 m_11e m_11 => ?_)
        refine g_iinc (n := 17) (lv' := [(2, vI (i_1 + 1)), (3, vI 6), (0, aR Γ a), (1, vI v)]) hx 1 (dq tJ7_fill_53178 12 rfl) rfl (by decide) rfl rfl ?_
        refine g_goto (n := 5) hx (dq tJ7_fill_53178 13 rfl) (by decide) ?_
        refine g_lv [1, 0, 2, 3] rfl ?_
        exact ih_4 _ (by omega) (i_1 + 1) M_10 (by omega) (by omega) (fun u_ v_ huv_ => ((m_11 u_ v_ (by omega)).trans (f_5 u_ v_ (by omega)))) rfl
  exact L_3 _ 0 M (by omega) (by omega) (fun _ _ _ => rfl) rfl

abbrev qctfill_36_0 (M : zM) (a : Nat) (v : Int) (M' : zM) : Prop := (∀ u_ v_, u_ ≠ a → M' u_ v_ = M u_ v_)
set_option maxHeartbeats 4000000 in
set_option maxRecDepth 100000 in
theorem ctfill_36_0 (Γ : Gam) (M : zM) (a : Nat) (ha : AI a 36 (-2147483648) 2147483647) (v : Int) (hvl : (-2147483648) ≤ v) (hvu : v ≤ 2147483647)  : CtV Γ yJ7_fill_53178 cJ7_fill_53178 4 none 0 0 [aR Γ a, vI v] M (qctfill_36_0 M a v) := by
  refine met_v (by decide) (Nat.le_of_ble_eq_true rfl) (fun x hx hr => ?_)
  show G Γ x 4 (QV Γ x (qctfill_36_0 M a v)) M 0 [(0, aR Γ a), (1, vI v)] []
  refine g_iconst (n := 1) hx (dq tJ7_fill_53178 0 rfl) rfl ?_
  refine g_istore_n (n := 2) (lv' := [(2, vI 0), (0, aR Γ a), (1, vI v)]) hx (dq tJ7_fill_53178 1 rfl) (by decide) rfl rfl ?_
  refine g_aload_n (n := 3) hx 1 (dq tJ7_fill_53178 2 rfl) rfl rfl ?_
  refine g_alen (n := 4) hx (akI ha) (dq tJ7_fill_53178 3 rfl) rfl ?_
  refine g_istore_n (n := 5) (lv' := [(3, vI 36), (2, vI 0), (0, aR Γ a), (1, vI v)]) hx (dq tJ7_fill_53178 4 rfl) (by decide) rfl rfl ?_
  have L_3 : ∀ (n_ : Nat) (i_1 : Int) (M_2 : zM), (0 ≤ i_1) → (i_1 ≤ 36) → (∀ u_ v_, u_ ≠ a → M_2 u_ v_ = M u_ v_) → ((36 - i_1).toNat = n_) → G Γ x 4 (QV Γ x (qctfill_36_0 M a v)) M_2 5 [(3, vI 36), (2, vI i_1), (0, aR Γ a), (1, vI v)] [] := by
    intro n_
    induction n_ using Nat.strongRecOn with
    | _ n_ ih_4 =>
      intro i_1 M_2 h_7 h_8 f_5 hm_6
      refine g_iload_n (n := 6) hx 1 (dq tJ7_fill_53178 5 rfl) rfl rfl ?_
      refine g_iload_n (n := 7) hx 0 (dq tJ7_fill_53178 6 rfl) rfl rfl ?_
      refine g_icmp_ge (n := 10) (t := 20) hx (dq tJ7_fill_53178 7 rfl) (by decide) rfl ⟨by omega, by omega⟩ ⟨by decide, by decide⟩ (fun c_9 => ?_) (fun c_9 => ?_)
      · exact g_vret hx hr (dq tJ7_fill_53178 14 rfl) (fun u_ v_ huv_ => (f_5 u_ v_ (by omega)))
      · refine g_aload_n (n := 11) hx 2 (dq tJ7_fill_53178 8 rfl) rfl rfl ?_
        refine g_iload_n (n := 12) hx 1 (dq tJ7_fill_53178 9 rfl) rfl rfl ?_
        refine g_iload_n (n := 13) hx 3 (dq tJ7_fill_53178 10 rfl) rfl rfl ?_
        refine g_iast (n := 14) (q := i_1.toNat) hx ha (dq tJ7_fill_53178 11 rfl) rfl (by omega) (by omega) (by omega) rfl (by omega) (by omega) (fun M_10 m_11e m_11 => ?_)
        refine g_iinc (n := 17) (lv' := [(2, vI (i_1 + 1)), (3, vI 36), (0, aR Γ a), (1, vI v)]) hx 1 (dq tJ7_fill_53178 12 rfl) rfl (by decide) rfl rfl ?_
        refine g_goto (n := 5) hx (dq tJ7_fill_53178 13 rfl) (by decide) ?_
        refine g_lv [1, 0, 2, 3] rfl ?_
        exact ih_4 _ (by omega) (i_1 + 1) M_10 (by omega) (by omega) (fun u_ v_ huv_ => ((m_11 u_ v_ (by omega)).trans (f_5 u_ v_ (by omega)))) rfl
  exact L_3 _ 0 M (by omega) (by omega) (fun _ _ _ => rfl) rfl

abbrev qctJ9_floorMod_7cf53 (M : zM) (p : Int) (q : Int) (z : Int) (M' : zM) : Prop := M = M' ∧ 0 ≤ z ∧ z ≤ 29
set_option maxHeartbeats 4000000 in
set_option maxRecDepth 100000 in
theorem ctJ9_floorMod_7cf53 (Γ : Gam) (M : zM) (p : Int) (hpl : (-2147483648) ≤ p) (hpu : p ≤ 2147483647) (q : Int) (hql : 30 ≤ q) (hqu : q ≤ 30)  : CtI Γ yJ9_floorMod_7cf53 cJ9_floorMod_7cf53 3 (some .int) 0 0 [vI p, vI q] M (qctJ9_floorMod_7cf53 M p q) := by
  refine met_iF (by decide +kernel) (Nat.le_of_ble_eq_true rfl) (fun x hx hr => ?_)
  show G Γ x 3 (QI Γ x (qctJ9_floorMod_7cf53 M p q)) M 0 [(0, vI p), (1, vI q)] []
  refine g_iload_n (n := 1) hx 0 (dq tJ9_floorMod_7cf53 0 rfl) rfl rfl ?_
  refine g_iload_n (n := 2) hx 1 (dq tJ9_floorMod_7cf53 1 rfl) rfl rfl ?_
  refine g_irem (n := 3) hx (dq tJ9_floorMod_7cf53 2 rfl) rfl (zrI hpl hpu (by decide) (by decide)) (zrI hql hqu (by decide) (by decide)) (by omega) (fun z_1 h_2 h_3 => ?_)
  obtain ⟨h_31, h_32, h_33, h_34⟩ := h_3 (by omega)
  have h_35 : 0 ≤ p → 0 ≤ z_1 := fun hh => (h_33 hh).1
  clear h_3 h_33
  refine g_istore_n (n := 4) (lv' := [(2, vI z_1), (0, vI p), (1, vI q)]) hx (dq tJ9_floorMod_7cf53 3 rfl) (by decide) rfl rfl ?_
  refine g_iload_n (n := 5) hx 1 (dq tJ9_floorMod_7cf53 4 rfl) rfl rfl ?_
  refine g_iload_n (n := 6) hx 2 (dq tJ9_floorMod_7cf53 5 rfl) rfl rfl ?_
  refine g_ixor (n := 7) hx (dq tJ9_floorMod_7cf53 6 rfl) rfl (fun z_4 h_5 h_6 h_6s => ?_)
  have h_65 : 0 ≤ p → 0 ≤ z_4 := fun hh => (h_6 31 (by decide) hh (by omega) (by omega) (by omega)).1
  have h_66 : p < 0 → z_4 < 0 := fun hh => h_6s (by omega) hh (by omega) (by omega)
  clear h_6 h_6s
  refine g_if_ge (n := 10) (t := 18) hx (dq tJ9_floorMod_7cf53 7 rfl) (by decide) rfl h_5 (fun c_7 => ?_) (fun c_7 => ?_)
  · refine g_iload_n (n := 19) hx 0 (dq tJ9_floorMod_7cf53 14 rfl) rfl rfl ?_
    exact g_iret hx hr (dq tJ9_floorMod_7cf53 15 rfl) h_2 ⟨rfl, (by omega), (by omega)⟩
  · refine g_iload_n (n := 11) hx 0 (dq tJ9_floorMod_7cf53 8 rfl) rfl rfl ?_
    refine g_if_eq (n := 14) (t := 18) hx (dq tJ9_floorMod_7cf53 9 rfl) (by decide) rfl h_2 (fun c_8 => ?_) (fun c_8 => ?_)
    · refine g_iload_n (n := 19) hx 0 (dq tJ9_floorMod_7cf53 14 rfl) rfl rfl ?_
      exact g_iret hx hr (dq tJ9_floorMod_7cf53 15 rfl) h_2 ⟨rfl, (by omega), (by omega)⟩
    · refine g_iload_n (n := 15) hx 0 (dq tJ9_floorMod_7cf53 10 rfl) rfl rfl ?_
      refine g_iload_n (n := 16) hx 2 (dq tJ9_floorMod_7cf53 11 rfl) rfl rfl ?_
      refine g_iadd (n := 17) hx (dq tJ9_floorMod_7cf53 12 rfl) rfl ?_
      exact g_iret hx hr (dq tJ9_floorMod_7cf53 13 rfl) ⟨by omega, by omega⟩ ⟨rfl, (by omega), (by omega)⟩

abbrev qctX8_placeAgo (M : zM) (b : Nat) (log : Int) (ago : Int) (z : Int) (M' : zM) : Prop := M = M'
set_option maxHeartbeats 4000000 in
set_option maxRecDepth 100000 in
theorem ctX8_placeAgo (Γ : Gam) (M : zM) (b : Nat) (hb : isX8 b) (log : Int) (hlogl : 0 ≤ log) (hlogu : log ≤ 11) (ago : Int) (hagol : (-2147483648) ≤ ago) (hagou : ago ≤ 2147483647)  : CtI Γ yX8_placeAgo cX8_placeAgo 3 (some .int) 1 22 [aR Γ b, vI log, vI ago] M (qctX8_placeAgo M b log ago) := by
  refine met_i (by decide) (Nat.le_of_ble_eq_true rfl) (fun x hx hr => ?_)
  show G Γ x 3 (QI Γ x (qctX8_placeAgo M b log ago)) M 0 [(0, aR Γ b), (1, vI log), (2, vI ago)] []
  refine g_aload_n (n := 1) hx 0 (dq tX8_placeAgo 0 rfl) rfl rfl ?_
  refine g_getR (n := 4) hx glX8_21 (sX8_2 hb) (dq tX8_placeAgo 1 rfl) rfl ?_
  refine g_getR (n := 7) hx glX8_102 (sX0_16 (iX8_2 hb)) (dq tX8_placeAgo 2 rfl) rfl ?_
  refine g_aload_n (n := 8) hx 0 (dq tX8_placeAgo 3 rfl) rfl rfl ?_
  refine g_getR (n := 11) hx glX8_12 (sX8_1 hb) (dq tX8_placeAgo 4 rfl) rfl ?_
  refine g_getI (n := 14) hx glX8_96 (sX6_0 (iX8_1 hb)) (dq tX8_placeAgo 5 rfl) rfl (fun h_1l h_1u => ?_)
  refine g_iload_n (n := 15) hx 2 (dq tX8_placeAgo 6 rfl) rfl rfl ?_
  refine g_isub (n := 16) hx (dq tX8_placeAgo 7 rfl) rfl ?_
  refine g_iconst (n := 17) hx (dq tX8_placeAgo 8 rfl) rfl ?_
  refine g_iadd (n := 18) hx (dq tX8_placeAgo 9 rfl) rfl ?_
  refine g_bipush (n := 20) hx (dq tX8_placeAgo 10 rfl) rfl (by decide) ?_
  refine g_any2 (fun z_2 h_3 => ?_)
  refine g_callSi (n := 23) (As := [vI z_2, vI 30]) (rest := [aR Γ (b + 11 + 12)]) hx (ctJ9_floorMod_7cf53 Γ M z_2 (by omega) (by omega) 30 (by decide) (by decide)) mlX8_105 (dq tX8_placeAgo 11 rfl) rfl (Nat.le_of_ble_eq_true rfl) (Nat.le_of_ble_eq_true rfl) (Nat.le_of_ble_eq_true rfl) rfl (fun z_4 M_5 h_6 p_7 => ?_)
  obtain ⟨rfl, h_9, h_10⟩ := p_7
  refine g_bipush (n := 25) hx (dq tX8_placeAgo 12 rfl) rfl (by decide) ?_
  refine g_imul (n := 26) hx (dq tX8_placeAgo 13 rfl) rfl ?_
  refine g_iload_n (n := 27) hx 1 (dq tX8_placeAgo 14 rfl) rfl rfl ?_
  refine g_iadd (n := 28) hx (dq tX8_placeAgo 15 rfl) rfl ?_
  refine g_iald (n := 29) (q := ((z_4 * 12) + log).toNat) hx (aX0_16 (b := b + 11) (iX8_2 hb)) (dq tX8_placeAgo 16 rfl) rfl (by omega) (by omega) (by omega) rfl (fun h_11l h_11u => ?_)
  exact g_iret hx hr (dq tX8_placeAgo 17 rfl) (zrI h_11l h_11u (by decide) (by decide)) rfl

abbrev qctX8_villagesSeen (M : zM) (b : Nat) (log : Int) (from_ : Int) (to_ : Int) (z : Int) (M' : zM) : Prop := M = M'
set_option maxHeartbeats 4000000 in
set_option maxRecDepth 100000 in
theorem ctX8_villagesSeen (Γ : Gam) (M : zM) (b : Nat) (hb : isX8 b) (log : Int) (hlogl : 0 ≤ log) (hlogu : log ≤ 11) (from_ : Int) (hfrom_l : (-2147483648) ≤ from_) (hfrom_u : from_ ≤ 30) (to_ : Int) (hto_l : (-2147483648) ≤ to_) (hto_u : to_ ≤ 2147483647)  : CtI Γ yX8_villagesSeen cX8_villagesSeen 6 (some .int) 2 44 [aR Γ b, vI log, vI from_, vI to_] M (qctX8_villagesSeen M b log from_ to_) := by
  refine met_i (by decide) (Nat.le_of_ble_eq_true rfl) (fun x hx hr => ?_)
  show G Γ x 6 (QI Γ x (qctX8_villagesSeen M b log from_ to_)) M 0 [(0, aR Γ b), (1, vI log), (2, vI from_), (3, vI to_)] []
  refine g_iconst (n := 1) hx (dq tX8_villagesSeen 0 rfl) rfl ?_
  refine g_istore (n := 3) (lv' := [(4, vI 0), (0, aR Γ b), (1, vI log), (2, vI from_), (3, vI to_)]) hx (dq tX8_villagesSeen 1 rfl) (by decide) rfl rfl ?_
  refine g_iload_n (n := 4) hx 4 (dq tX8_villagesSeen 2 rfl) rfl rfl ?_
  refine g_istore (n := 6) (lv' := [(5, vI to_), (4, vI 0), (0, aR Γ b), (1, vI log), (2, vI from_), (3, vI to_)]) hx (dq tX8_villagesSeen 3 rfl) (by decide) rfl rfl ?_
  have L_3 : ∀ (n_ : Nat) (i_1 : Int) (i_2 : Int), ((-2147483648) ≤ i_1) → (i_1 ≤ 2147483647) → ((-2147483648) ≤ i_2) → (i_2 ≤ 2147483647) → ((31 - i_1).toNat = n_) → G Γ x 6 (QI Γ x (qctX8_villagesSeen M b log from_ to_)) M 6 [(5, vI i_1), (4, vI i_2), (0, aR Γ b), (1, vI log), (2, vI from_), (3, vI to_)] [] := by
    intro n_
    induction n_ using Nat.strongRecOn with
    | _ n_ ih_4 =>
      intro i_1 i_2 h_7 h_8 h_9 h_10 hm_6
      refine g_iload (n := 8) hx 0 (dq tX8_villagesSeen 4 rfl) rfl rfl ?_
      refine g_iload_n (n := 9) hx 4 (dq tX8_villagesSeen 5 rfl) rfl rfl ?_
      refine g_icmp_gt (n := 12) (t := 34) hx (dq tX8_villagesSeen 6 rfl) (by decide) rfl ⟨by omega, by omega⟩ (zrI hfrom_l hfrom_u (by decide) (by decide)) (fun c_11 => ?_) (fun c_11 => ?_)
      · refine g_iload (n := 36) hx 1 (dq tX8_villagesSeen 18 rfl) rfl rfl ?_
        exact g_iret hx hr (dq tX8_villagesSeen 19 rfl) ⟨by omega, by omega⟩ rfl
      · refine g_iload (n := 14) hx 1 (dq tX8_villagesSeen 7 rfl) rfl rfl ?_
        refine g_aload_n (n := 15) hx 2 (dq tX8_villagesSeen 8 rfl) rfl rfl ?_
        refine g_aload_n (n := 16) hx 2 (dq tX8_villagesSeen 9 rfl) rfl rfl ?_
        refine g_iload_n (n := 17) hx 3 (dq tX8_villagesSeen 10 rfl) rfl rfl ?_
        refine g_iload (n := 19) hx 0 (dq tX8_villagesSeen 11 rfl) rfl rfl ?_
        refine g_callVi (n := 22) (As := [vI log, vI i_1]) (rest := [aR Γ b, vI i_2]) hx (ctX8_placeAgo Γ M b hb log (by omega) (by omega) i_1 (by omega) (by omega)) mlX8_108 (obX8 hb) (dq tX8_villagesSeen 12 rfl) rfl (Nat.le_of_ble_eq_true rfl) (Nat.le_of_ble_eq_true rfl) (Nat.le_of_ble_eq_true rfl) rfl (fun z_12 M_13 h_14 p_15 => ?_)
        obtain rfl := p_15
        refine g_callVi (n := 25) (As := [vI z_12]) (rest := [vI i_2]) hx (ctX8_villagesAt Γ M b hb z_12 (by omega) (by omega)) mlX8_111 (obX8 hb) (dq tX8_villagesSeen 13 rfl) rfl (Nat.le_of_ble_eq_true rfl) (Nat.le_of_ble_eq_true rfl) (Nat.le_of_ble_eq_true rfl) rfl (fun z_17 M_18 h_19 p_20 => ?_)
        obtain rfl := p_20
        refine g_ior (n := 26) hx (dq tX8_villagesSeen 14 rfl) rfl (fun z_22 h_23 h_24 => ?_)
        clear h_24
        refine g_istore (n := 28) (lv' := [(4, vI z_22), (5, vI i_1), (0, aR Γ b), (1, vI log), (2, vI from_), (3, vI to_)]) hx (dq tX8_villagesSeen 15 rfl) (by decide) rfl rfl ?_
        refine g_iinc (n := 31) (lv' := [(5, vI (i_1 + 1)), (4, vI z_22), (0, aR Γ b), (1, vI log), (2, vI from_), (3, vI to_)]) hx 1 (dq tX8_villagesSeen 16 rfl) rfl (by decide) rfl rfl ?_
        refine g_goto (n := 6) hx (dq tX8_villagesSeen 17 rfl) (by decide) ?_
        exact ih_4 _ (by omega) (i_1 + 1) z_22 (by omega) (by omega) (by omega) (by omega) rfl
  exact L_3 _ to_ 0 (by omega) (by omega) (by omega) (by omega) rfl

abbrev qctX4_hasKind (M : zM) (g : Nat) (kind : Int) (z : Int) (M' : zM) : Prop := M = M' ∧ (z = 0 ∨ (z = 1))
set_option maxHeartbeats 4000000 in
set_option maxRecDepth 100000 in
theorem ctX4_hasKind (Γ : Gam) (M : zM) (g : Nat) (hg : isX4 g) (kind : Int) (hkindl : (-2147483648) ≤ kind) (hkindu : kind ≤ 2147483647)  : CtI Γ yX4_hasKind cX4_hasKind 2 (some .boolean) 0 0 [aR Γ g, vI kind] M (qctX4_hasKind M g kind) := by
  refine met_i (by decide) (Nat.le_of_ble_eq_true rfl) (fun x hx hr => ?_)
  show G Γ x 2 (QI Γ x (qctX4_hasKind M g kind)) M 0 [(0, aR Γ g), (1, vI kind)] []
  refine g_aload_n (n := 1) hx 0 (dq tX4_hasKind 0 rfl) rfl rfl ?_
  refine g_getI (n := 4) hx glX4_23 (sX4_2 hg) (dq tX4_hasKind 1 rfl) rfl (fun h_1l h_1u => ?_)
  refine g_iload_n (n := 5) hx 1 (dq tX4_hasKind 2 rfl) rfl rfl ?_
  refine g_ishr (n := 6) hx (dq tX4_hasKind 3 rfl) rfl (fun z_2 h_3 => ?_)
  refine g_iconst (n := 7) hx (dq tX4_hasKind 4 rfl) rfl ?_
  refine g_iand (n := 8) hx (dq tX4_hasKind 5 rfl) rfl (fun z_5 h_6 h_71 h_72 => ?_)
  obtain ⟨h_73, h_74⟩ := h_71 (by omega) (by omega)
  clear h_71 h_72
  refine g_iconst (n := 9) hx (dq tX4_hasKind 6 rfl) rfl ?_
  refine g_icmp_ne (n := 12) (t := 16) hx (dq tX4_hasKind 7 rfl) (by decide) rfl h_6 ⟨by decide, by decide⟩ (fun c_8 => ?_) (fun c_8 => ?_)
  · refine g_iconst (n := 17) hx (dq tX4_hasKind 10 rfl) rfl ?_
    exact g_zret hx hr (dq tX4_hasKind 11 rfl) (by omega) ⟨rfl, (by omega)⟩
  · refine g_iconst (n := 13) hx (dq tX4_hasKind 8 rfl) rfl ?_
    refine g_goto (n := 17) hx (dq tX4_hasKind 9 rfl) (by decide) ?_
    exact g_zret hx hr (dq tX4_hasKind 11 rfl) (by omega) ⟨rfl, (by omega)⟩

abbrev qctX4_hasWord (M : zM) (g : Nat) (word : Int) (z : Int) (M' : zM) : Prop := M = M' ∧ (z = 0 ∨ (z = 1))
set_option maxHeartbeats 4000000 in
set_option maxRecDepth 100000 in
theorem ctX4_hasWord (Γ : Gam) (M : zM) (g : Nat) (hg : isX4 g) (word : Int) (hwordl : (-2147483648) ≤ word) (hwordu : word ≤ 2147483647)  : CtI Γ yX4_hasWord cX4_hasWord 2 (some .boolean) 0 0 [aR Γ g, vI word] M (qctX4_hasWord M g word) := by
  refine met_i (by decide) (Nat.le_of_ble_eq_true rfl) (fun x hx hr => ?_)
  show G Γ x 2 (QI Γ x (qctX4_hasWord M g word)) M 0 [(0, aR Γ g), (1, vI word)] []
  refine g_aload_n (n := 1) hx 0 (dq tX4_hasWord 0 rfl) rfl rfl ?_
  refine g_getI (n := 4) hx glX4_26 (sX4_3 hg) (dq tX4_hasWord 1 rfl) rfl (fun h_1l h_1u => ?_)
  refine g_iload_n (n := 5) hx 1 (dq tX4_hasWord 2 rfl) rfl rfl ?_
  refine g_ishr (n := 6) hx (dq tX4_hasWord 3 rfl) rfl (fun z_2 h_3 => ?_)
  refine g_iconst (n := 7) hx (dq tX4_hasWord 4 rfl) rfl ?_
  refine g_iand (n := 8) hx (dq tX4_hasWord 5 rfl) rfl (fun z_5 h_6 h_71 h_72 => ?_)
  obtain ⟨h_73, h_74⟩ := h_71 (by omega) (by omega)
  clear h_71 h_72
  refine g_iconst (n := 9) hx (dq tX4_hasWord 6 rfl) rfl ?_
  refine g_icmp_ne (n := 12) (t := 16) hx (dq tX4_hasWord 7 rfl) (by decide) rfl h_6 ⟨by decide, by decide⟩ (fun c_8 => ?_) (fun c_8 => ?_)
  · refine g_iconst (n := 17) hx (dq tX4_hasWord 10 rfl) rfl ?_
    exact g_zret hx hr (dq tX4_hasWord 11 rfl) (by omega) ⟨rfl, (by omega)⟩
  · refine g_iconst (n := 13) hx (dq tX4_hasWord 8 rfl) rfl ?_
    refine g_goto (n := 17) hx (dq tX4_hasWord 9 rfl) (by decide) ?_
    exact g_zret hx hr (dq tX4_hasWord 11 rfl) (by omega) ⟨rfl, (by omega)⟩

abbrev qctX4_joined (M : zM) (step : Int) (one : Int64) (other : Int64) (z : Int64) (M' : zM) : Prop := M = M'
set_option maxHeartbeats 4000000 in
set_option maxRecDepth 100000 in
theorem ctX4_joined (Γ : Gam) (M : zM) (step : Int) (hstepl : (-2147483648) ≤ step) (hstepu : step ≤ 2147483647) (one : Int64) (other : Int64)  : CtL Γ yX4_joined cX4_joined 5 (some .long) 0 0 [vI step, .long one, .long other] M (qctX4_joined M step one other) := by
  refine met_l (by decide) (Nat.le_of_ble_eq_true rfl) (fun x hx hr => ?_)
  show G Γ x 5 (QL Γ x (qctX4_joined M step one other)) M 0 [(0, vI step), (1, .long one), (3, .long other)] []
  refine g_iload_n (n := 1) hx 0 (dq tX4_joined 0 rfl) rfl rfl ?_
  by_cases c_1 : step = 16
  · refine g_swI (t := 60) hx (dq tX4_joined 1 rfl) c_1 (by decide) (by decide) rfl (by decide) ?_
    refine g_lload_n (n := 61) hx 1 (dq tX4_joined 2 rfl) rfl rfl ?_
    refine g_lload_n (n := 62) hx 2 (dq tX4_joined 3 rfl) rfl rfl ?_
    refine g_ladd (n := 63) hx (dq tX4_joined 4 rfl) rfl (fun w_2 => ?_)
    exact g_lret (v := w_2) hx hr (dq tX4_joined 5 rfl) rfl
  by_cases c_3 : step = 17
  · refine g_swI (t := 64) hx (dq tX4_joined 1 rfl) c_3 (by decide) (by decide) rfl (by decide) ?_
    refine g_lload_n (n := 65) hx 1 (dq tX4_joined 6 rfl) rfl rfl ?_
    refine g_lload_n (n := 66) hx 2 (dq tX4_joined 7 rfl) rfl rfl ?_
    refine g_lsub (n := 67) hx (dq tX4_joined 8 rfl) rfl (fun w_4 => ?_)
    exact g_lret (v := w_4) hx hr (dq tX4_joined 9 rfl) rfl
  by_cases c_5 : step = 18
  · refine g_swI (t := 68) hx (dq tX4_joined 1 rfl) c_5 (by decide) (by decide) rfl (by decide) ?_
    refine g_lload_n (n := 69) hx 1 (dq tX4_joined 10 rfl) rfl rfl ?_
    refine g_lload_n (n := 70) hx 2 (dq tX4_joined 11 rfl) rfl rfl ?_
    refine g_lmul (n := 71) hx (dq tX4_joined 12 rfl) rfl (fun w_6 => ?_)
    exact g_lret (v := w_6) hx hr (dq tX4_joined 13 rfl) rfl
  by_cases c_7 : step = 19
  · refine g_swI (t := 72) hx (dq tX4_joined 1 rfl) c_7 (by decide) (by decide) rfl (by decide) ?_
    refine g_lload_n (n := 73) hx 2 (dq tX4_joined 14 rfl) rfl rfl ?_
    refine g_lconst (n := 74) (z := 0) hx (dq tX4_joined 15 rfl) rfl (by decide) ?_
    refine g_lcmpU (n := 75) hx (dq tX4_joined 16 rfl) rfl (fun z_8 h_91 h_92 h_93 h_94 => ?_)
    refine g_if_ne (n := 78) (t := 82) hx (dq tX4_joined 17 rfl) (by decide) rfl ⟨by omega, by omega⟩ (fun c_10 => ?_) (fun c_10 => ?_)
    · refine g_lload_n (n := 83) hx 1 (dq tX4_joined 20 rfl) rfl rfl ?_
      refine g_lload_n (n := 84) hx 2 (dq tX4_joined 21 rfl) rfl rfl ?_
      refine g_ldiv (n := 85) hx (dq tX4_joined 22 rfl) rfl (fun e9 => c_10 (h_94 (e9.trans (by decide)))) (fun w_11 => ?_)
      exact g_lret (v := w_11) hx hr (dq tX4_joined 23 rfl) rfl
    · refine g_lconst (n := 79) (z := 0) hx (dq tX4_joined 18 rfl) rfl (by decide) ?_
      refine g_goto (n := 85) hx (dq tX4_joined 19 rfl) (by decide) ?_
      exact g_lret (v := Int64.ofInt 0) hx hr (dq tX4_joined 23 rfl) rfl
  by_cases c_12 : step = 20
  · refine g_swI (t := 86) hx (dq tX4_joined 1 rfl) c_12 (by decide) (by decide) rfl (by decide) ?_
    refine g_lload_n (n := 87) hx 2 (dq tX4_joined 24 rfl) rfl rfl ?_
    refine g_lconst (n := 88) (z := 0) hx (dq tX4_joined 25 rfl) rfl (by decide) ?_
    refine g_lcmpU (n := 89) hx (dq tX4_joined 26 rfl) rfl (fun z_13 h_141 h_142 h_143 h_144 => ?_)
    refine g_if_ne (n := 92) (t := 96) hx (dq tX4_joined 27 rfl) (by decide) rfl ⟨by omega, by omega⟩ (fun c_15 => ?_) (fun c_15 => ?_)
    · refine g_lload_n (n := 97) hx 1 (dq tX4_joined 30 rfl) rfl rfl ?_
      refine g_lload_n (n := 98) hx 2 (dq tX4_joined 31 rfl) rfl rfl ?_
      refine g_lrem (n := 99) hx (dq tX4_joined 32 rfl) rfl (fun e9 => c_15 (h_144 (e9.trans (by decide)))) (fun w_16 => ?_)
      exact g_lret (v := w_16) hx hr (dq tX4_joined 33 rfl) rfl
    · refine g_lconst (n := 93) (z := 0) hx (dq tX4_joined 28 rfl) rfl (by decide) ?_
      refine g_goto (n := 99) hx (dq tX4_joined 29 rfl) (by decide) ?_
      exact g_lret (v := Int64.ofInt 0) hx hr (dq tX4_joined 33 rfl) rfl
  by_cases c_17 : step = 21
  · refine g_swI (t := 100) hx (dq tX4_joined 1 rfl) c_17 (by decide) (by decide) rfl (by decide) ?_
    refine g_lload_n (n := 101) hx 1 (dq tX4_joined 34 rfl) rfl rfl ?_
    refine g_lload_n (n := 102) hx 2 (dq tX4_joined 35 rfl) rfl rfl ?_
    refine g_lcmpU (n := 103) hx (dq tX4_joined 36 rfl) rfl (fun z_18 h_191 h_192 h_193 h_194 => ?_)
    refine g_if_ge (n := 106) (t := 110) hx (dq tX4_joined 37 rfl) (by decide) rfl ⟨by omega, by omega⟩ (fun c_20 => ?_) (fun c_20 => ?_)
    · refine g_lconst (n := 111) (z := 0) hx (dq tX4_joined 40 rfl) rfl (by decide) ?_
      exact g_lret (v := Int64.ofInt 0) hx hr (dq tX4_joined 41 rfl) rfl
    · refine g_lconst (n := 107) (z := 1) hx (dq tX4_joined 38 rfl) rfl (by decide) ?_
      refine g_goto (n := 111) hx (dq tX4_joined 39 rfl) (by decide) ?_
      exact g_lret (v := Int64.ofInt 1) hx hr (dq tX4_joined 41 rfl) rfl
  by_cases c_21 : step = 22
  · refine g_swI (t := 112) hx (dq tX4_joined 1 rfl) c_21 (by decide) (by decide) rfl (by decide) ?_
    refine g_lload_n (n := 113) hx 1 (dq tX4_joined 42 rfl) rfl rfl ?_
    refine g_lload_n (n := 114) hx 2 (dq tX4_joined 43 rfl) rfl rfl ?_
    refine g_lcmpU (n := 115) hx (dq tX4_joined 44 rfl) rfl (fun z_22 h_231 h_232 h_233 h_234 => ?_)
    refine g_if_gt (n := 118) (t := 122) hx (dq tX4_joined 45 rfl) (by decide) rfl ⟨by omega, by omega⟩ (fun c_24 => ?_) (fun c_24 => ?_)
    · refine g_lconst (n := 123) (z := 0) hx (dq tX4_joined 48 rfl) rfl (by decide) ?_
      exact g_lret (v := Int64.ofInt 0) hx hr (dq tX4_joined 49 rfl) rfl
    · refine g_lconst (n := 119) (z := 1) hx (dq tX4_joined 46 rfl) rfl (by decide) ?_
      refine g_goto (n := 123) hx (dq tX4_joined 47 rfl) (by decide) ?_
      exact g_lret (v := Int64.ofInt 1) hx hr (dq tX4_joined 49 rfl) rfl
  by_cases c_25 : step = 23
  · refine g_swI (t := 124) hx (dq tX4_joined 1 rfl) c_25 (by decide) (by decide) rfl (by decide) ?_
    refine g_lload_n (n := 125) hx 1 (dq tX4_joined 50 rfl) rfl rfl ?_
    refine g_lload_n (n := 126) hx 2 (dq tX4_joined 51 rfl) rfl rfl ?_
    refine g_lcmpU (n := 127) hx (dq tX4_joined 52 rfl) rfl (fun z_26 h_271 h_272 h_273 h_274 => ?_)
    refine g_if_ne (n := 130) (t := 134) hx (dq tX4_joined 53 rfl) (by decide) rfl ⟨by omega, by omega⟩ (fun c_28 => ?_) (fun c_28 => ?_)
    · refine g_lconst (n := 135) (z := 0) hx (dq tX4_joined 56 rfl) rfl (by decide) ?_
      exact g_lret (v := Int64.ofInt 0) hx hr (dq tX4_joined 57 rfl) rfl
    · refine g_lconst (n := 131) (z := 1) hx (dq tX4_joined 54 rfl) rfl (by decide) ?_
      refine g_goto (n := 135) hx (dq tX4_joined 55 rfl) (by decide) ?_
      exact g_lret (v := Int64.ofInt 1) hx hr (dq tX4_joined 57 rfl) rfl
  by_cases c_29 : step = 24
  · refine g_swI (t := 136) hx (dq tX4_joined 1 rfl) c_29 (by decide) (by decide) rfl (by decide) ?_
    refine g_lload_n (n := 137) hx 1 (dq tX4_joined 58 rfl) rfl rfl ?_
    refine g_lload_n (n := 138) hx 2 (dq tX4_joined 59 rfl) rfl rfl ?_
    refine g_lcmpU (n := 139) hx (dq tX4_joined 60 rfl) rfl (fun z_30 h_311 h_312 h_313 h_314 => ?_)
    refine g_if_lt (n := 142) (t := 146) hx (dq tX4_joined 61 rfl) (by decide) rfl ⟨by omega, by omega⟩ (fun c_32 => ?_) (fun c_32 => ?_)
    · refine g_lconst (n := 147) (z := 0) hx (dq tX4_joined 64 rfl) rfl (by decide) ?_
      exact g_lret (v := Int64.ofInt 0) hx hr (dq tX4_joined 65 rfl) rfl
    · refine g_lconst (n := 143) (z := 1) hx (dq tX4_joined 62 rfl) rfl (by decide) ?_
      refine g_goto (n := 147) hx (dq tX4_joined 63 rfl) (by decide) ?_
      exact g_lret (v := Int64.ofInt 1) hx hr (dq tX4_joined 65 rfl) rfl
  by_cases c_33 : step = 25
  · refine g_swI (t := 148) hx (dq tX4_joined 1 rfl) c_33 (by decide) (by decide) rfl (by decide) ?_
    refine g_lload_n (n := 149) hx 1 (dq tX4_joined 66 rfl) rfl rfl ?_
    refine g_lload_n (n := 150) hx 2 (dq tX4_joined 67 rfl) rfl rfl ?_
    refine g_lcmpU (n := 151) hx (dq tX4_joined 68 rfl) rfl (fun z_34 h_351 h_352 h_353 h_354 => ?_)
    refine g_if_le (n := 154) (t := 158) hx (dq tX4_joined 69 rfl) (by decide) rfl ⟨by omega, by omega⟩ (fun c_36 => ?_) (fun c_36 => ?_)
    · refine g_lconst (n := 159) (z := 0) hx (dq tX4_joined 72 rfl) rfl (by decide) ?_
      exact g_lret (v := Int64.ofInt 0) hx hr (dq tX4_joined 73 rfl) rfl
    · refine g_lconst (n := 155) (z := 1) hx (dq tX4_joined 70 rfl) rfl (by decide) ?_
      refine g_goto (n := 159) hx (dq tX4_joined 71 rfl) (by decide) ?_
      exact g_lret (v := Int64.ofInt 1) hx hr (dq tX4_joined 73 rfl) rfl
  by_cases c_37 : step = 26
  · refine g_swI (t := 160) hx (dq tX4_joined 1 rfl) c_37 (by decide) (by decide) rfl (by decide) ?_
    refine g_lload_n (n := 161) hx 1 (dq tX4_joined 74 rfl) rfl rfl ?_
    refine g_lload_n (n := 162) hx 2 (dq tX4_joined 75 rfl) rfl rfl ?_
    refine g_land (n := 163) hx (dq tX4_joined 76 rfl) rfl (fun w_38 => ?_)
    exact g_lret (v := w_38) hx hr (dq tX4_joined 77 rfl) rfl
  refine g_swO (t := 164) hx (dq tX4_joined 1 rfl) (zrI hstepl hstepu (by decide) (by decide)) (by omega) (by decide) ?_
  refine g_lload_n (n := 165) hx 1 (dq tX4_joined 78 rfl) rfl rfl ?_
  refine g_lload_n (n := 166) hx 2 (dq tX4_joined 79 rfl) rfl rfl ?_
  refine g_lor (n := 167) hx (dq tX4_joined 80 rfl) rfl (fun w_39 => ?_)
  exact g_lret (v := w_39) hx hr (dq tX4_joined 81 rfl) rfl

abbrev qctX4_finds (M : zM) (g : Nat) (kind : Int) (told : Nat) (z : Int) (M' : zM) : Prop := M = M' ∧ (z = 0 ∨ (z = 1))
set_option maxHeartbeats 4000000 in
set_option maxRecDepth 100000 in
theorem ctX4_finds (Γ : Gam) (M : zM) (g : Nat) (hg : isX4 g) (kind : Int) (hkindl : (-2147483648) ≤ kind) (hkindu : kind ≤ 2147483647) (told : Nat) (htold : AK told 1 13)  : CtI Γ yX4_finds cX4_finds 7 (some .boolean) 1 24 [aR Γ g, vI kind, aR Γ told] M (qctX4_finds M g kind told) := by
  refine met_i (by decide) (Nat.le_of_ble_eq_true rfl) (fun x hx hr => ?_)
  show G Γ x 7 (QI Γ x (qctX4_finds M g kind told)) M 0 [(0, aR Γ g), (1, vI kind), (2, aR Γ told)] []
  refine g_iconst (n := 1) hx (dq tX4_finds 0 rfl) rfl ?_
  refine g_istore_n (n := 2) (lv' := [(3, vI 0), (0, aR Γ g), (1, vI kind), (2, aR Γ told)]) hx (dq tX4_finds 1 rfl) (by decide) rfl rfl ?_
  refine g_iconst (n := 3) hx (dq tX4_finds 2 rfl) rfl ?_
  refine g_istore (n := 5) (lv' := [(4, vI 0), (3, vI 0), (0, aR Γ g), (1, vI kind), (2, aR Γ told)]) hx (dq tX4_finds 3 rfl) (by decide) rfl rfl ?_
  refine g_iconst (n := 6) hx (dq tX4_finds 4 rfl) rfl ?_
  refine g_istore (n := 8) (lv' := [(5, vI 0), (4, vI 0), (3, vI 0), (0, aR Γ g), (1, vI kind), (2, aR Γ told)]) hx (dq tX4_finds 5 rfl) (by decide) rfl rfl ?_
  have L_4 : ∀ (n_ : Nat) (i_1 : Int) (i_2 : Int) (i_3 : Int), (0 ≤ i_1) → (i_1 ≤ 400) → ((-2147483648) ≤ i_2) → (i_2 ≤ 2147483647) → (0 ≤ i_3) → (i_3 ≤ 60) → ((400 - i_1).toNat = n_) → G Γ x 7 (QI Γ x (qctX4_finds M g kind told)) M 8 [(5, vI i_1), (4, vI i_2), (3, vI i_3), (0, aR Γ g), (1, vI kind), (2, aR Γ told)] [] := by
    intro n_
    induction n_ using Nat.strongRecOn with
    | _ n_ ih_5 =>
      intro i_1 i_2 i_3 h_8 h_9 h_10 h_11 h_12 h_13 hm_7
      refine g_iload (n := 10) hx 0 (dq tX4_finds 6 rfl) rfl rfl ?_
      refine g_sipush (n := 13) hx (dq tX4_finds 7 rfl) rfl (by decide) ?_
      refine g_icmp_ge (n := 16) (t := 261) hx (dq tX4_finds 8 rfl) (by decide) rfl ⟨by omega, by omega⟩ ⟨by decide, by decide⟩ (fun c_14 => ?_) (fun c_14 => ?_)
      · refine g_iconst (n := 262) hx (dq tX4_finds 143 rfl) rfl ?_
        exact g_zret hx hr (dq tX4_finds 144 rfl) (by omega) ⟨rfl, (by omega)⟩
      · refine g_iload (n := 18) hx 1 (dq tX4_finds 9 rfl) rfl rfl ?_
        refine g_if_lt (n := 21) (t := 261) hx (dq tX4_finds 10 rfl) (by decide) rfl ⟨by omega, by omega⟩ (fun c_15 => ?_) (fun c_15 => ?_)
        · refine g_iconst (n := 262) hx (dq tX4_finds 143 rfl) rfl ?_
          exact g_zret hx hr (dq tX4_finds 144 rfl) (by omega) ⟨rfl, (by omega)⟩
        · refine g_iload (n := 23) hx 1 (dq tX4_finds 11 rfl) rfl rfl ?_
          refine g_aload_n (n := 24) hx 3 (dq tX4_finds 12 rfl) rfl rfl ?_
          refine g_getI (n := 27) hx glX4_19 (sX4_1 hg) (dq tX4_finds 13 rfl) rfl (fun h_16l h_16u => ?_)
          refine g_icmp_ge (n := 30) (t := 261) hx (dq tX4_finds 14 rfl) (by decide) rfl ⟨by omega, by omega⟩ (zrI h_16l h_16u (by decide) (by decide)) (fun c_17 => ?_) (fun c_17 => ?_)
          · refine g_iconst (n := 262) hx (dq tX4_finds 143 rfl) rfl ?_
            exact g_zret hx hr (dq tX4_finds 144 rfl) (by omega) ⟨rfl, (by omega)⟩
          · refine g_aload_n (n := 31) hx 3 (dq tX4_finds 15 rfl) rfl rfl ?_
            refine g_getR (n := 34) hx glX4_9 (sX4_0 hg) (dq tX4_finds 16 rfl) rfl ?_
            refine g_iload (n := 36) hx 1 (dq tX4_finds 17 rfl) rfl rfl ?_
            refine g_iald (n := 37) (q := i_2.toNat) hx (aX4_0 (b := g) hg) (dq tX4_finds 18 rfl) rfl (by omega) (by omega) (by omega) rfl (fun h_18l h_18u => ?_)
            refine g_istore (n := 39) (lv' := [(6, vI (M (g + 1) i_2.toNat)), (5, vI i_1), (4, vI i_2), (3, vI i_3), (0, aR Γ g), (1, vI kind), (2, aR Γ told)]) hx (dq tX4_finds 19 rfl) (by decide) rfl rfl ?_
            refine g_iinc (n := 42) (lv' := [(4, vI (i_2 + 1)), (6, vI (M (g + 1) i_2.toNat)), (5, vI i_1), (3, vI i_3), (0, aR Γ g), (1, vI kind), (2, aR Γ told)]) hx 2 (dq tX4_finds 20 rfl) rfl (by decide) rfl rfl ?_
            refine g_iload (n := 44) hx 1 (dq tX4_finds 21 rfl) rfl rfl ?_
            refine g_bipush (n := 46) hx (dq tX4_finds 22 rfl) rfl (by decide) ?_
            refine g_icmp_lt (n := 49) (t := 88) hx (dq tX4_finds 23 rfl) (by decide) rfl (zrI h_18l h_18u (by decide) (by decide)) ⟨by decide, by decide⟩ (fun c_19 => ?_) (fun c_19 => ?_)
            · refine g_iload (n := 90) hx 1 (dq tX4_finds 45 rfl) rfl rfl ?_
              refine g_bipush (n := 92) hx (dq tX4_finds 46 rfl) rfl (by decide) ?_
              refine g_icmp_ge (n := 95) (t := 132) hx (dq tX4_finds 47 rfl) (by decide) rfl (zrI h_18l h_18u (by decide) (by decide)) ⟨by decide, by decide⟩ (fun c_20 => ?_) (fun c_20 => ?_)
              · refine g_iload_n (n := 133) hx 3 (dq tX4_finds 67 rfl) rfl rfl ?_
                refine g_iconst (n := 134) hx (dq tX4_finds 68 rfl) rfl ?_
                refine g_icmp_ge (n := 137) (t := 139) hx (dq tX4_finds 69 rfl) (by decide) rfl ⟨by omega, by omega⟩ ⟨by decide, by decide⟩ (fun c_21 => ?_) (fun c_21 => ?_)
                · refine g_iload (n := 141) hx 1 (dq tX4_finds 72 rfl) rfl rfl ?_
                  refine g_bipush (n := 143) hx (dq tX4_finds 73 rfl) rfl (by decide) ?_
                  refine g_icmp_ne (n := 146) (t := 167) hx (dq tX4_finds 74 rfl) (by decide) rfl (zrI h_18l h_18u (by decide) (by decide)) ⟨by decide, by decide⟩ (fun c_22 => ?_) (fun c_22 => ?_)
                  · refine g_iload (n := 169) hx 1 (dq tX4_finds 90 rfl) rfl rfl ?_
                    refine g_bipush (n := 171) hx (dq tX4_finds 91 rfl) rfl (by decide) ?_
                    refine g_icmp_eq (n := 174) (t := 188) hx (dq tX4_finds 92 rfl) (by decide) rfl (zrI h_18l h_18u (by decide) (by decide)) ⟨by decide, by decide⟩ (fun c_23 => ?_) (fun c_23 => ?_)
                    · refine g_iload (n := 190) hx 1 (dq tX4_finds 99 rfl) rfl rfl ?_
                      refine g_bipush (n := 192) hx (dq tX4_finds 100 rfl) rfl (by decide) ?_
                      refine g_icmp_eq (n := 195) (t := 208) hx (dq tX4_finds 101 rfl) (by decide) rfl (zrI h_18l h_18u (by decide) (by decide)) ⟨by decide, by decide⟩ (fun c_24 => ?_) (fun c_24 => ?_)
                      · refine g_aload_n (n := 209) hx 4 (dq tX4_finds 111 rfl) rfl rfl ?_
                        refine g_aload_n (n := 210) hx 4 (dq tX4_finds 112 rfl) rfl rfl ?_
                        refine g_getR (n := 213) hx glX4_15 (sX4_4 hg) (dq tX4_finds 113 rfl) rfl ?_
                        refine g_iconst (n := 214) hx (dq tX4_finds 114 rfl) rfl ?_
                        refine g_lald (n := 215) hx (aX4_4 (b := g) hg) (dq tX4_finds 115 rfl) rfl (by decide) (by decide) (by decide) (fun w_25 => ?_)
                        refine g_putJ (n := 218) hx plX4_35 (sX4_5 hg) (dq tX4_finds 116 rfl) rfl ?_
                        refine g_iconst (n := 219) hx (dq tX4_finds 117 rfl) rfl ?_
                        exact g_zret hx hr (dq tX4_finds 118 rfl) (by omega) ⟨rfl, (by omega)⟩
                      · omega
                    · refine g_iload (n := 176) hx 1 (dq tX4_finds 93 rfl) rfl rfl ?_
                      refine g_bipush (n := 178) hx (dq tX4_finds 94 rfl) rfl (by decide) ?_
                      refine g_icmp_eq (n := 181) (t := 188) hx (dq tX4_finds 95 rfl) (by decide) rfl (zrI h_18l h_18u (by decide) (by decide)) ⟨by decide, by decide⟩ (fun c_26 => ?_) (fun c_26 => ?_)
                      · refine g_iload (n := 190) hx 1 (dq tX4_finds 99 rfl) rfl rfl ?_
                        refine g_bipush (n := 192) hx (dq tX4_finds 100 rfl) rfl (by decide) ?_
                        refine g_icmp_eq (n := 195) (t := 208) hx (dq tX4_finds 101 rfl) (by decide) rfl (zrI h_18l h_18u (by decide) (by decide)) ⟨by decide, by decide⟩ (fun c_27 => ?_) (fun c_27 => ?_)
                        · omega
                        · refine g_aload_n (n := 196) hx 4 (dq tX4_finds 102 rfl) rfl rfl ?_
                          refine g_getR (n := 199) hx glX4_15 (sX4_4 hg) (dq tX4_finds 103 rfl) rfl ?_
                          refine g_iload_n (n := 200) hx 3 (dq tX4_finds 104 rfl) rfl rfl ?_
                          refine g_iconst (n := 201) hx (dq tX4_finds 105 rfl) rfl ?_
                          refine g_isub (n := 202) hx (dq tX4_finds 106 rfl) rfl ?_
                          refine g_lald (n := 203) hx (aX4_4 (b := g) hg) (dq tX4_finds 107 rfl) rfl (by omega) (by omega) (by omega) (fun w_28 => ?_)
                          refine g_lconst (n := 204) (z := 1) hx (dq tX4_finds 108 rfl) rfl (by decide) ?_
                          refine g_lcmpU (n := 205) hx (dq tX4_finds 109 rfl) rfl (fun z_29 h_301 h_302 h_303 h_304 => ?_)
                          refine g_if_ne (n := 208) (t := 255) hx (dq tX4_finds 110 rfl) (by decide) rfl ⟨by omega, by omega⟩ (fun c_31 => ?_) (fun c_31 => ?_)
                          · refine g_iinc (n := 258) (lv' := [(5, vI (i_1 + 1)), (4, vI (i_2 + 1)), (6, vI (M (g + 1) i_2.toNat)), (3, vI i_3), (0, aR Γ g), (1, vI kind), (2, aR Γ told)]) hx 2 (dq tX4_finds 141 rfl) rfl (by decide) rfl rfl ?_
                            refine g_goto (n := 8) hx (dq tX4_finds 142 rfl) (by decide) ?_
                            refine g_lv [0, 1, 3, 4, 5, 6] rfl ?_
                            exact ih_5 _ (by omega) (i_1 + 1) (i_2 + 1) i_3 (by omega) (by omega) (by omega) (by omega) (by omega) (by omega) rfl
                          · refine g_aload_n (n := 209) hx 4 (dq tX4_finds 111 rfl) rfl rfl ?_
                            refine g_aload_n (n := 210) hx 4 (dq tX4_finds 112 rfl) rfl rfl ?_
                            refine g_getR (n := 213) hx glX4_15 (sX4_4 hg) (dq tX4_finds 113 rfl) rfl ?_
                            refine g_iconst (n := 214) hx (dq tX4_finds 114 rfl) rfl ?_
                            refine g_lald (n := 215) hx (aX4_4 (b := g) hg) (dq tX4_finds 115 rfl) rfl (by decide) (by decide) (by decide) (fun w_32 => ?_)
                            refine g_putJ (n := 218) hx plX4_35 (sX4_5 hg) (dq tX4_finds 116 rfl) rfl ?_
                            refine g_iconst (n := 219) hx (dq tX4_finds 117 rfl) rfl ?_
                            exact g_zret hx hr (dq tX4_finds 118 rfl) (by omega) ⟨rfl, (by omega)⟩
                      · refine g_iload (n := 183) hx 1 (dq tX4_finds 96 rfl) rfl rfl ?_
                        refine g_bipush (n := 185) hx (dq tX4_finds 97 rfl) rfl (by decide) ?_
                        refine g_icmp_ne (n := 188) (t := 220) hx (dq tX4_finds 98 rfl) (by decide) rfl (zrI h_18l h_18u (by decide) (by decide)) ⟨by decide, by decide⟩ (fun c_33 => ?_) (fun c_33 => ?_)
                        · refine g_iload_n (n := 221) hx 3 (dq tX4_finds 119 rfl) rfl rfl ?_
                          refine g_iconst (n := 222) hx (dq tX4_finds 120 rfl) rfl ?_
                          refine g_icmp_le (n := 225) (t := 255) hx (dq tX4_finds 121 rfl) (by decide) rfl ⟨by omega, by omega⟩ ⟨by decide, by decide⟩ (fun c_34 => ?_) (fun c_34 => ?_)
                          · refine g_iinc (n := 258) (lv' := [(5, vI (i_1 + 1)), (4, vI (i_2 + 1)), (6, vI (M (g + 1) i_2.toNat)), (3, vI i_3), (0, aR Γ g), (1, vI kind), (2, aR Γ told)]) hx 2 (dq tX4_finds 141 rfl) rfl (by decide) rfl rfl ?_
                            refine g_goto (n := 8) hx (dq tX4_finds 142 rfl) (by decide) ?_
                            refine g_lv [0, 1, 3, 4, 5, 6] rfl ?_
                            exact ih_5 _ (by omega) (i_1 + 1) (i_2 + 1) i_3 (by omega) (by omega) (by omega) (by omega) (by omega) (by omega) rfl
                          · refine g_iinc (n := 228) (lv' := [(3, vI (i_3 + (-1))), (4, vI (i_2 + 1)), (6, vI (M (g + 1) i_2.toNat)), (5, vI i_1), (0, aR Γ g), (1, vI kind), (2, aR Γ told)]) hx 3 (dq tX4_finds 122 rfl) rfl (by decide) rfl rfl ?_
                            refine g_aload_n (n := 229) hx 4 (dq tX4_finds 123 rfl) rfl rfl ?_
                            refine g_getR (n := 232) hx glX4_15 (sX4_4 hg) (dq tX4_finds 124 rfl) rfl ?_
                            refine g_iload_n (n := 233) hx 0 (dq tX4_finds 125 rfl) rfl rfl ?_
                            refine g_iconst (n := 234) hx (dq tX4_finds 126 rfl) rfl ?_
                            refine g_isub (n := 235) hx (dq tX4_finds 127 rfl) rfl ?_
                            refine g_iload (n := 237) hx 2 (dq tX4_finds 128 rfl) rfl rfl ?_
                            refine g_aload_n (n := 238) hx 4 (dq tX4_finds 129 rfl) rfl rfl ?_
                            refine g_getR (n := 241) hx glX4_15 (sX4_4 hg) (dq tX4_finds 130 rfl) rfl ?_
                            refine g_iload_n (n := 242) hx 0 (dq tX4_finds 131 rfl) rfl rfl ?_
                            refine g_iconst (n := 243) hx (dq tX4_finds 132 rfl) rfl ?_
                            refine g_isub (n := 244) hx (dq tX4_finds 133 rfl) rfl ?_
                            refine g_lald (n := 245) hx (aX4_4 (b := g) hg) (dq tX4_finds 134 rfl) rfl (by omega) (by omega) (by omega) (fun w_35 => ?_)
                            refine g_aload_n (n := 246) hx 4 (dq tX4_finds 135 rfl) rfl rfl ?_
                            refine g_getR (n := 249) hx glX4_15 (sX4_4 hg) (dq tX4_finds 136 rfl) rfl ?_
                            refine g_iload_n (n := 250) hx 0 (dq tX4_finds 137 rfl) rfl rfl ?_
                            refine g_lald (n := 251) hx (aX4_4 (b := g) hg) (dq tX4_finds 138 rfl) rfl (by omega) (by omega) (by omega) (fun w_36 => ?_)
                            refine g_callSl (n := 254) (As := [vI (M (g + 1) i_2.toNat), .long w_35, .long w_36]) (rest := [vI ((i_3 + (-1)) - 1), aR Γ (g + 2)]) hx (ctX4_joined Γ M (M (g + 1) i_2.toNat) (by omega) (by omega) w_35 w_36) mlX4_39 (dq tX4_finds 139 rfl) rfl (Nat.le_of_ble_eq_true rfl) (Nat.le_of_ble_eq_true rfl) (Nat.le_of_ble_eq_true rfl) rfl (fun z_37 M_38 p_40 => ?_)
                            obtain rfl := p_40
                            refine g_last (n := 255) hx (aX4_4 (b := g) hg) (dq tX4_finds 140 rfl) rfl (by omega) (by omega) (by omega) ?_
                            refine g_iinc (n := 258) (lv' := [(5, vI (i_1 + 1)), (3, vI (i_3 + (-1))), (4, vI (i_2 + 1)), (6, vI (M (g + 1) i_2.toNat)), (0, aR Γ g), (1, vI kind), (2, aR Γ told)]) hx 3 (dq tX4_finds 141 rfl) rfl (by decide) rfl rfl ?_
                            refine g_goto (n := 8) hx (dq tX4_finds 142 rfl) (by decide) ?_
                            refine g_lv [0, 2, 1, 4, 5, 6] rfl ?_
                            exact ih_5 _ (by omega) (i_1 + 1) (i_2 + 1) (i_3 + (-1)) (by omega) (by omega) (by omega) (by omega) (by omega) (by omega) rfl
                        · refine g_iload (n := 190) hx 1 (dq tX4_finds 99 rfl) rfl rfl ?_
                          refine g_bipush (n := 192) hx (dq tX4_finds 100 rfl) rfl (by decide) ?_
                          refine g_icmp_eq (n := 195) (t := 208) hx (dq tX4_finds 101 rfl) (by decide) rfl (zrI h_18l h_18u (by decide) (by decide)) ⟨by decide, by decide⟩ (fun c_42 => ?_) (fun c_42 => ?_)
                          · omega
                          · refine g_aload_n (n := 196) hx 4 (dq tX4_finds 102 rfl) rfl rfl ?_
                            refine g_getR (n := 199) hx glX4_15 (sX4_4 hg) (dq tX4_finds 103 rfl) rfl ?_
                            refine g_iload_n (n := 200) hx 3 (dq tX4_finds 104 rfl) rfl rfl ?_
                            refine g_iconst (n := 201) hx (dq tX4_finds 105 rfl) rfl ?_
                            refine g_isub (n := 202) hx (dq tX4_finds 106 rfl) rfl ?_
                            refine g_lald (n := 203) hx (aX4_4 (b := g) hg) (dq tX4_finds 107 rfl) rfl (by omega) (by omega) (by omega) (fun w_43 => ?_)
                            refine g_lconst (n := 204) (z := 1) hx (dq tX4_finds 108 rfl) rfl (by decide) ?_
                            refine g_lcmpU (n := 205) hx (dq tX4_finds 109 rfl) rfl (fun z_44 h_451 h_452 h_453 h_454 => ?_)
                            refine g_if_ne (n := 208) (t := 255) hx (dq tX4_finds 110 rfl) (by decide) rfl ⟨by omega, by omega⟩ (fun c_46 => ?_) (fun c_46 => ?_)
                            · refine g_iinc (n := 258) (lv' := [(5, vI (i_1 + 1)), (4, vI (i_2 + 1)), (6, vI (M (g + 1) i_2.toNat)), (3, vI i_3), (0, aR Γ g), (1, vI kind), (2, aR Γ told)]) hx 2 (dq tX4_finds 141 rfl) rfl (by decide) rfl rfl ?_
                              refine g_goto (n := 8) hx (dq tX4_finds 142 rfl) (by decide) ?_
                              refine g_lv [0, 1, 3, 4, 5, 6] rfl ?_
                              exact ih_5 _ (by omega) (i_1 + 1) (i_2 + 1) i_3 (by omega) (by omega) (by omega) (by omega) (by omega) (by omega) rfl
                            · refine g_aload_n (n := 209) hx 4 (dq tX4_finds 111 rfl) rfl rfl ?_
                              refine g_aload_n (n := 210) hx 4 (dq tX4_finds 112 rfl) rfl rfl ?_
                              refine g_getR (n := 213) hx glX4_15 (sX4_4 hg) (dq tX4_finds 113 rfl) rfl ?_
                              refine g_iconst (n := 214) hx (dq tX4_finds 114 rfl) rfl ?_
                              refine g_lald (n := 215) hx (aX4_4 (b := g) hg) (dq tX4_finds 115 rfl) rfl (by decide) (by decide) (by decide) (fun w_47 => ?_)
                              refine g_putJ (n := 218) hx plX4_35 (sX4_5 hg) (dq tX4_finds 116 rfl) rfl ?_
                              refine g_iconst (n := 219) hx (dq tX4_finds 117 rfl) rfl ?_
                              exact g_zret hx hr (dq tX4_finds 118 rfl) (by omega) ⟨rfl, (by omega)⟩
                  · refine g_aload_n (n := 147) hx 4 (dq tX4_finds 75 rfl) rfl rfl ?_
                    refine g_getR (n := 150) hx glX4_15 (sX4_4 hg) (dq tX4_finds 76 rfl) rfl ?_
                    refine g_iload_n (n := 151) hx 3 (dq tX4_finds 77 rfl) rfl rfl ?_
                    refine g_iconst (n := 152) hx (dq tX4_finds 78 rfl) rfl ?_
                    refine g_isub (n := 153) hx (dq tX4_finds 79 rfl) rfl ?_
                    refine g_lconst (n := 154) (z := 1) hx (dq tX4_finds 80 rfl) rfl (by decide) ?_
                    refine g_aload_n (n := 155) hx 4 (dq tX4_finds 81 rfl) rfl rfl ?_
                    refine g_getR (n := 158) hx glX4_15 (sX4_4 hg) (dq tX4_finds 82 rfl) rfl ?_
                    refine g_iload_n (n := 159) hx 3 (dq tX4_finds 83 rfl) rfl rfl ?_
                    refine g_iconst (n := 160) hx (dq tX4_finds 84 rfl) rfl ?_
                    refine g_isub (n := 161) hx (dq tX4_finds 85 rfl) rfl ?_
                    refine g_lald (n := 162) hx (aX4_4 (b := g) hg) (dq tX4_finds 86 rfl) rfl (by omega) (by omega) (by omega) (fun w_48 => ?_)
                    refine g_lsub (n := 163) hx (dq tX4_finds 87 rfl) rfl (fun w_49 => ?_)
                    refine g_last (n := 164) hx (aX4_4 (b := g) hg) (dq tX4_finds 88 rfl) rfl (by omega) (by omega) (by omega) ?_
                    refine g_goto (n := 255) hx (dq tX4_finds 89 rfl) (by decide) ?_
                    refine g_iinc (n := 258) (lv' := [(5, vI (i_1 + 1)), (4, vI (i_2 + 1)), (6, vI (M (g + 1) i_2.toNat)), (3, vI i_3), (0, aR Γ g), (1, vI kind), (2, aR Γ told)]) hx 2 (dq tX4_finds 141 rfl) rfl (by decide) rfl rfl ?_
                    refine g_goto (n := 8) hx (dq tX4_finds 142 rfl) (by decide) ?_
                    refine g_lv [0, 1, 3, 4, 5, 6] rfl ?_
                    exact ih_5 _ (by omega) (i_1 + 1) (i_2 + 1) i_3 (by omega) (by omega) (by omega) (by omega) (by omega) (by omega) rfl
                · refine g_iconst (n := 138) hx (dq tX4_finds 70 rfl) rfl ?_
                  exact g_zret hx hr (dq tX4_finds 71 rfl) (by omega) ⟨rfl, (by omega)⟩
              · refine g_iload_n (n := 96) hx 3 (dq tX4_finds 48 rfl) rfl rfl ?_
                refine g_bipush (n := 98) hx (dq tX4_finds 49 rfl) rfl (by decide) ?_
                refine g_icmp_ge (n := 101) (t := 255) hx (dq tX4_finds 50 rfl) (by decide) rfl ⟨by omega, by omega⟩ ⟨by decide, by decide⟩ (fun c_50 => ?_) (fun c_50 => ?_)
                · refine g_iinc (n := 258) (lv' := [(5, vI (i_1 + 1)), (4, vI (i_2 + 1)), (6, vI (M (g + 1) i_2.toNat)), (3, vI i_3), (0, aR Γ g), (1, vI kind), (2, aR Γ told)]) hx 2 (dq tX4_finds 141 rfl) rfl (by decide) rfl rfl ?_
                  refine g_goto (n := 8) hx (dq tX4_finds 142 rfl) (by decide) ?_
                  refine g_lv [0, 1, 3, 4, 5, 6] rfl ?_
                  exact ih_5 _ (by omega) (i_1 + 1) (i_2 + 1) i_3 (by omega) (by omega) (by omega) (by omega) (by omega) (by omega) rfl
                · refine g_aload_n (n := 102) hx 4 (dq tX4_finds 51 rfl) rfl rfl ?_
                  refine g_getR (n := 105) hx glX4_15 (sX4_4 hg) (dq tX4_finds 52 rfl) rfl ?_
                  refine g_iload_n (n := 106) hx 3 (dq tX4_finds 53 rfl) rfl rfl ?_
                  refine g_iload (n := 108) hx 1 (dq tX4_finds 54 rfl) rfl rfl ?_
                  refine g_if_ge (n := 111) (t := 121) hx (dq tX4_finds 55 rfl) (by decide) rfl (zrI h_18l h_18u (by decide) (by decide)) (fun c_51 => ?_) (fun c_51 => ?_)
                  · refine g_aload_n (n := 122) hx 6 (dq tX4_finds 61 rfl) rfl rfl ?_
                    refine g_iload (n := 124) hx 1 (dq tX4_finds 62 rfl) rfl rfl ?_
                    refine g_lald (n := 125) hx htold (dq tX4_finds 63 rfl) rfl (by omega) (by omega) (by omega) (fun w_52 => ?_)
                    refine g_last (n := 126) hx (aX4_4 (b := g) hg) (dq tX4_finds 64 rfl) rfl (by omega) (by omega) (by omega) ?_
                    refine g_iinc (n := 129) (lv' := [(3, vI (i_3 + 1)), (4, vI (i_2 + 1)), (6, vI (M (g + 1) i_2.toNat)), (5, vI i_1), (0, aR Γ g), (1, vI kind), (2, aR Γ told)]) hx 3 (dq tX4_finds 65 rfl) rfl (by decide) rfl rfl ?_
                    refine g_goto (n := 255) hx (dq tX4_finds 66 rfl) (by decide) ?_
                    refine g_iinc (n := 258) (lv' := [(5, vI (i_1 + 1)), (3, vI (i_3 + 1)), (4, vI (i_2 + 1)), (6, vI (M (g + 1) i_2.toNat)), (0, aR Γ g), (1, vI kind), (2, aR Γ told)]) hx 3 (dq tX4_finds 141 rfl) rfl (by decide) rfl rfl ?_
                    refine g_goto (n := 8) hx (dq tX4_finds 142 rfl) (by decide) ?_
                    refine g_lv [0, 2, 1, 4, 5, 6] rfl ?_
                    exact ih_5 _ (by omega) (i_1 + 1) (i_2 + 1) (i_3 + 1) (by omega) (by omega) (by omega) (by omega) (by omega) (by omega) rfl
                  · refine g_ldc2 (n := 114) (z := (-1)) hx wd_757 (by decide) (dq tX4_finds 56 rfl) rfl ?_
                    refine g_iload (n := 116) hx 1 (dq tX4_finds 57 rfl) rfl rfl ?_
                    refine g_i2l (n := 117) hx (dq tX4_finds 58 rfl) rfl (zrI h_18l h_18u (by decide) (by decide)) ?_
                    refine g_lsub (n := 118) hx (dq tX4_finds 59 rfl) rfl (fun w_53 => ?_)
                    refine g_goto (n := 125) hx (dq tX4_finds 60 rfl) (by decide) ?_
                    refine g_last (n := 126) hx (aX4_4 (b := g) hg) (dq tX4_finds 64 rfl) rfl (by omega) (by omega) (by omega) ?_
                    refine g_iinc (n := 129) (lv' := [(3, vI (i_3 + 1)), (4, vI (i_2 + 1)), (6, vI (M (g + 1) i_2.toNat)), (5, vI i_1), (0, aR Γ g), (1, vI kind), (2, aR Γ told)]) hx 3 (dq tX4_finds 65 rfl) rfl (by decide) rfl rfl ?_
                    refine g_goto (n := 255) hx (dq tX4_finds 66 rfl) (by decide) ?_
                    refine g_iinc (n := 258) (lv' := [(5, vI (i_1 + 1)), (3, vI (i_3 + 1)), (4, vI (i_2 + 1)), (6, vI (M (g + 1) i_2.toNat)), (0, aR Γ g), (1, vI kind), (2, aR Γ told)]) hx 3 (dq tX4_finds 141 rfl) rfl (by decide) rfl rfl ?_
                    refine g_goto (n := 8) hx (dq tX4_finds 142 rfl) (by decide) ?_
                    refine g_lv [0, 2, 1, 4, 5, 6] rfl ?_
                    exact ih_5 _ (by omega) (i_1 + 1) (i_2 + 1) (i_3 + 1) (by omega) (by omega) (by omega) (by omega) (by omega) (by omega) rfl
            · refine g_iconst (n := 50) hx (dq tX4_finds 24 rfl) rfl ?_
              refine g_istore_n (n := 51) (lv' := [(3, vI 0), (4, vI (i_2 + 1)), (6, vI (M (g + 1) i_2.toNat)), (5, vI i_1), (0, aR Γ g), (1, vI kind), (2, aR Γ told)]) hx (dq tX4_finds 25 rfl) (by decide) rfl rfl ?_
              refine g_iload (n := 53) hx 1 (dq tX4_finds 26 rfl) rfl rfl ?_
              refine g_aload_n (n := 54) hx 4 (dq tX4_finds 27 rfl) rfl rfl ?_
              refine g_getI (n := 57) hx glX4_19 (sX4_1 hg) (dq tX4_finds 28 rfl) rfl (fun h_54l h_54u => ?_)
              refine g_icmp_ge (n := 60) (t := 79) hx (dq tX4_finds 29 rfl) (by decide) rfl ⟨by omega, by omega⟩ (zrI h_54l h_54u (by decide) (by decide)) (fun c_55 => ?_) (fun c_55 => ?_)
              · refine g_iload (n := 81) hx 1 (dq tX4_finds 40 rfl) rfl rfl ?_
                refine g_iconst (n := 82) hx (dq tX4_finds 41 rfl) rfl ?_
                refine g_iadd (n := 83) hx (dq tX4_finds 42 rfl) rfl ?_
                refine g_istore (n := 85) (lv' := [(4, vI ((i_2 + 1) + 1)), (3, vI 0), (6, vI (M (g + 1) i_2.toNat)), (5, vI i_1), (0, aR Γ g), (1, vI kind), (2, aR Γ told)]) hx (dq tX4_finds 43 rfl) (by decide) rfl rfl ?_
                refine g_goto (n := 255) hx (dq tX4_finds 44 rfl) (by decide) ?_
                refine g_iinc (n := 258) (lv' := [(5, vI (i_1 + 1)), (4, vI ((i_2 + 1) + 1)), (3, vI 0), (6, vI (M (g + 1) i_2.toNat)), (0, aR Γ g), (1, vI kind), (2, aR Γ told)]) hx 3 (dq tX4_finds 141 rfl) rfl (by decide) rfl rfl ?_
                refine g_goto (n := 8) hx (dq tX4_finds 142 rfl) (by decide) ?_
                refine g_lv [0, 1, 2, 4, 5, 6] rfl ?_
                exact ih_5 _ (by omega) (i_1 + 1) ((i_2 + 1) + 1) 0 (by omega) (by omega) (by omega) (by omega) (by omega) (by omega) rfl
              · refine g_iload (n := 62) hx 2 (dq tX4_finds 30 rfl) rfl rfl ?_
                refine g_bipush (n := 64) hx (dq tX4_finds 31 rfl) rfl (by decide) ?_
                refine g_isub (n := 65) hx (dq tX4_finds 32 rfl) rfl ?_
                refine g_iload_n (n := 66) hx 5 (dq tX4_finds 33 rfl) rfl rfl ?_
                refine g_icmp_eq (n := 69) (t := 79) hx (dq tX4_finds 34 rfl) (by decide) rfl ⟨by omega, by omega⟩ (zrI hkindl hkindu (by decide) (by decide)) (fun c_56 => ?_) (fun c_56 => ?_)
                · refine g_iload (n := 81) hx 1 (dq tX4_finds 40 rfl) rfl rfl ?_
                  refine g_iconst (n := 82) hx (dq tX4_finds 41 rfl) rfl ?_
                  refine g_iadd (n := 83) hx (dq tX4_finds 42 rfl) rfl ?_
                  refine g_istore (n := 85) (lv' := [(4, vI ((i_2 + 1) + 1)), (3, vI 0), (6, vI (M (g + 1) i_2.toNat)), (5, vI i_1), (0, aR Γ g), (1, vI kind), (2, aR Γ told)]) hx (dq tX4_finds 43 rfl) (by decide) rfl rfl ?_
                  refine g_goto (n := 255) hx (dq tX4_finds 44 rfl) (by decide) ?_
                  refine g_iinc (n := 258) (lv' := [(5, vI (i_1 + 1)), (4, vI ((i_2 + 1) + 1)), (3, vI 0), (6, vI (M (g + 1) i_2.toNat)), (0, aR Γ g), (1, vI kind), (2, aR Γ told)]) hx 3 (dq tX4_finds 141 rfl) rfl (by decide) rfl rfl ?_
                  refine g_goto (n := 8) hx (dq tX4_finds 142 rfl) (by decide) ?_
                  refine g_lv [0, 1, 2, 4, 5, 6] rfl ?_
                  exact ih_5 _ (by omega) (i_1 + 1) ((i_2 + 1) + 1) 0 (by omega) (by omega) (by omega) (by omega) (by omega) (by omega) rfl
                · refine g_aload_n (n := 70) hx 4 (dq tX4_finds 35 rfl) rfl rfl ?_
                  refine g_getR (n := 73) hx glX4_9 (sX4_0 hg) (dq tX4_finds 36 rfl) rfl ?_
                  refine g_iload (n := 75) hx 1 (dq tX4_finds 37 rfl) rfl rfl ?_
                  refine g_iald (n := 76) (q := (i_2 + 1).toNat) hx (aX4_0 (b := g) hg) (dq tX4_finds 38 rfl) rfl (by omega) (by omega) (by omega) rfl (fun h_57l h_57u => ?_)
                  refine g_goto (n := 83) hx (dq tX4_finds 39 rfl) (by decide) ?_
                  refine g_istore (n := 85) (lv' := [(4, vI (M (g + 1) ((i_2 + 1).toNat))), (3, vI 0), (6, vI (M (g + 1) i_2.toNat)), (5, vI i_1), (0, aR Γ g), (1, vI kind), (2, aR Γ told)]) hx (dq tX4_finds 43 rfl) (by decide) rfl rfl ?_
                  refine g_goto (n := 255) hx (dq tX4_finds 44 rfl) (by decide) ?_
                  refine g_iinc (n := 258) (lv' := [(5, vI (i_1 + 1)), (4, vI (M (g + 1) ((i_2 + 1).toNat))), (3, vI 0), (6, vI (M (g + 1) i_2.toNat)), (0, aR Γ g), (1, vI kind), (2, aR Γ told)]) hx 3 (dq tX4_finds 141 rfl) rfl (by decide) rfl rfl ?_
                  refine g_goto (n := 8) hx (dq tX4_finds 142 rfl) (by decide) ?_
                  refine g_lv [0, 1, 2, 4, 5, 6] rfl ?_
                  exact ih_5 _ (by omega) (i_1 + 1) (M (g + 1) ((i_2 + 1).toNat)) 0 (by omega) (by omega) (by omega) (by omega) (by omega) (by omega) rfl
  exact L_4 _ 0 0 0 (by omega) (by omega) (by omega) (by omega) (by omega) (by omega) rfl

abbrev qctX8_roomFor (M : zM) (b : Nat) (kind : Int) (log : Int) (village : Int) (z : Int) (M' : zM) : Prop := M = M'
set_option maxHeartbeats 4000000 in
set_option maxRecDepth 100000 in
theorem ctX8_roomFor (Γ : Gam) (M : zM) (b : Nat) (hb : isX8 b) (kind : Int) (hkindl : (-2147483648) ≤ kind) (hkindu : kind ≤ 2147483647) (log : Int) (hlogl : 0 ≤ log) (hlogu : log ≤ 11) (village : Int) (hvillagel : (-1) ≤ village) (hvillageu : village ≤ 5) (pre0 : log < M 37 3) (pre1 : kind = 2 → (0 ≤ village ∧ village < M 37 1)) (gd0 : Gd M 37 (b + 1)) : CtI Γ yX8_roomFor cX8_roomFor 5 (some .int) 2 44 [aR Γ b, vI kind, vI log, vI village] M (qctX8_roomFor M b kind log village) := by
  refine met_i (by decide) (Nat.le_of_ble_eq_true rfl) (fun x hx hr => ?_)
  show G Γ x 5 (QI Γ x (qctX8_roomFor M b kind log village)) M 0 [(0, aR Γ b), (1, vI kind), (2, vI log), (3, vI village)] []
  refine g_iload_n (n := 1) hx 1 (dq tX8_roomFor 0 rfl) rfl rfl ?_
  refine g_iconst (n := 2) hx (dq tX8_roomFor 1 rfl) rfl ?_
  refine g_icmp_ne (n := 5) (t := 19) hx (dq tX8_roomFor 2 rfl) (by decide) rfl (zrI hkindl hkindu (by decide) (by decide)) ⟨by decide, by decide⟩ (fun c_1 => ?_) (fun c_1 => ?_)
  · refine g_aload_n (n := 20) hx 0 (dq tX8_roomFor 11 rfl) rfl rfl ?_
    refine g_getR (n := 23) hx glX8_12 (sX8_1 hb) (dq tX8_roomFor 12 rfl) rfl ?_
    refine g_iload_n (n := 24) hx 2 (dq tX8_roomFor 13 rfl) rfl rfl ?_
    refine g_callVi (n := 27) (As := [vI log]) (rest := []) hx (ctX6_isInWater Γ M (b + 1) (iX8_1 hb) log (by omega) (by omega)) mlX8_187 (obX6 (iX8_1 hb)) (dq tX8_roomFor 14 rfl) rfl (Nat.le_of_ble_eq_true rfl) (Nat.le_of_ble_eq_true rfl) (Nat.le_of_ble_eq_true rfl) rfl (fun z_2 M_3 h_4 p_5 => ?_)
    obtain ⟨rfl, b_7⟩ := p_5
    refine g_if_ne (n := 30) (t := 32) hx (dq tX8_roomFor 15 rfl) (by decide) rfl h_4 (fun c_9 => ?_) (fun c_9 => ?_)
    · have b_7 := b_7.resolve_left c_9
      obtain ⟨-, h_8⟩ := b_7
      refine g_aload_n (n := 33) hx 0 (dq tX8_roomFor 18 rfl) rfl rfl ?_
      refine g_getR (n := 36) hx glX8_12 (sX8_1 hb) (dq tX8_roomFor 19 rfl) rfl ?_
      refine g_getR (n := 39) hx glX8_57 (sX6_8 (iX8_1 hb)) (dq tX8_roomFor 20 rfl) rfl ?_
      refine g_iload_n (n := 40) hx 2 (dq tX8_roomFor 21 rfl) rfl rfl ?_
      refine g_iald (n := 41) (q := log.toNat) hx (aX6_8 (b := b + 1) (iX8_1 hb)) (dq tX8_roomFor 22 rfl) rfl (by omega) (by omega) (by omega) rfl (fun h_10l h_10u => ?_)
      refine g_iconst (n := 42) hx (dq tX8_roomFor 23 rfl) rfl ?_
      refine g_iadd (n := 43) hx (dq tX8_roomFor 24 rfl) rfl ?_
      refine g_istore (n := 45) (lv' := [(4, vI ((M (b + 1 + 3) log.toNat) + 1)), (0, aR Γ b), (1, vI kind), (2, vI log), (3, vI village)]) hx (dq tX8_roomFor 25 rfl) (by decide) rfl rfl ?_
      refine g_iload (n := 47) hx 0 (dq tX8_roomFor 26 rfl) rfl rfl ?_
      refine g_aload_n (n := 48) hx 1 (dq tX8_roomFor 27 rfl) rfl rfl ?_
      refine g_getR (n := 51) hx glX8_39 (sX8_0 hb) (dq tX8_roomFor 28 rfl) rfl ?_
      refine g_getI (n := 54) hx glX8_65 (sX2_0 (by decide)) (dq tX8_roomFor 29 rfl) rfl (fun h_11l h_11u => ?_)
      refine g_icmp_ge (n := 57) (t := 66) hx (dq tX8_roomFor 30 rfl) (by decide) rfl ⟨by omega, by omega⟩ (zrI h_11l h_11u (by decide) (by decide)) (fun c_12 => ?_) (fun c_12 => ?_)
      · refine g_bipush (n := 68) hx (dq tX8_roomFor 35 rfl) rfl (by decide) ?_
        exact g_iret hx hr (dq tX8_roomFor 36 rfl) ⟨by decide, by decide⟩ rfl
      · refine g_aload_n (n := 58) hx 1 (dq tX8_roomFor 31 rfl) rfl rfl ?_
        refine g_iload (n := 60) hx 0 (dq tX8_roomFor 32 rfl) rfl rfl ?_
        refine g_callVi (n := 63) (As := [vI ((M (b + 1 + 3) log.toNat) + 1)]) (rest := []) hx (ctX8_roomAt Γ M b hb ((M (b + 1 + 3) log.toNat) + 1) (by omega) (by omega)) mlX8_184 (obX8 hb) (dq tX8_roomFor 33 rfl) rfl (Nat.le_of_ble_eq_true rfl) (Nat.le_of_ble_eq_true rfl) (Nat.le_of_ble_eq_true rfl) rfl (fun z_13 M_14 h_15 p_16 => ?_)
        obtain rfl := p_16
        refine g_goto (n := 68) hx (dq tX8_roomFor 34 rfl) (by decide) ?_
        exact g_iret hx hr (dq tX8_roomFor 36 rfl) h_15 rfl
    · clear b_7
      refine g_iconst (n := 31) hx (dq tX8_roomFor 16 rfl) rfl ?_
      exact g_iret hx hr (dq tX8_roomFor 17 rfl) ⟨by decide, by decide⟩ rfl
  · refine g_aload_n (n := 6) hx 0 (dq tX8_roomFor 3 rfl) rfl rfl ?_
    refine g_aload_n (n := 7) hx 0 (dq tX8_roomFor 4 rfl) rfl rfl ?_
    refine g_getR (n := 10) hx glX8_39 (sX8_0 hb) (dq tX8_roomFor 5 rfl) rfl ?_
    refine g_getR (n := 13) hx glX8_60 (sX2_5 (by decide)) (dq tX8_roomFor 6 rfl) rfl ?_
    refine g_iload_n (n := 14) hx 3 (dq tX8_roomFor 7 rfl) rfl rfl ?_
    refine g_iald (n := 15) (q := village.toNat) hx (aX2_5 (b := 37) (by decide)) (dq tX8_roomFor 8 rfl) rfl (by omega) (by omega) (by omega) rfl (fun h_18l h_18u => ?_)
    refine g_iv (fun h_20 => ?_)
    have h_20v : (0 : Int) ≤ M 37 1 ∧ M 37 1 ≤ 6 := h_20 37 1
    have h_20l : (0 : Int) ≤ M 37 3 ∧ M 37 3 ≤ 12 := h_20 37 3
    clear h_20
    have h_19 := gd0.1 village.toNat (by omega)
    refine g_callVi (n := 18) (As := [vI (M (37 + 1) village.toNat)]) (rest := []) hx (ctX8_roomAt Γ M b hb (M (37 + 1) village.toNat) (by omega) (by omega)) mlX8_184 (obX8 hb) (dq tX8_roomFor 9 rfl) rfl (Nat.le_of_ble_eq_true rfl) (Nat.le_of_ble_eq_true rfl) (Nat.le_of_ble_eq_true rfl) rfl (fun z_21 M_22 h_23 p_24 => ?_)
    obtain rfl := p_24
    exact g_iret hx hr (dq tX8_roomFor 10 rfl) h_23 rfl

abbrev qctX8_tellWords (M : zM) (b : Nat) (log : Int) (village : Int) (owner : Int) (room : Int) (M' : zM) : Prop := M = M'
set_option maxHeartbeats 4000000 in
set_option maxRecDepth 100000 in
theorem ctX8_tellWords (Γ : Gam) (M : zM) (b : Nat) (hb : isX8 b) (log : Int) (hlogl : 0 ≤ log) (hlogu : log ≤ 11) (village : Int) (hvillagel : (-2147483648) ≤ village) (hvillageu : village ≤ 2147483647) (owner : Int) (hownerl : (-2147483648) ≤ owner) (howneru : owner ≤ 2147483647) (room : Int) (hrooml : (-2147483648) ≤ room) (hroomu : room ≤ 2147483647) (pre0 : log < M 37 3) (gd0 : Gd M 37 (b + 1)) : CtV Γ yX8_tellWords cX8_tellWords 6 none 1 22 [aR Γ b, vI log, vI village, vI owner, vI room] M (qctX8_tellWords M b log village owner room) := by
  refine met_v (by decide) (Nat.le_of_ble_eq_true rfl) (fun x hx hr => ?_)
  show G Γ x 6 (QV Γ x (qctX8_tellWords M b log village owner room)) M 0 [(0, aR Γ b), (1, vI log), (2, vI village), (3, vI owner), (4, vI room)] []
  refine g_aload_n (n := 1) hx 0 (dq tX8_tellWords 0 rfl) rfl rfl ?_
  refine g_getR (n := 4) hx glX8_12 (sX8_1 hb) (dq tX8_tellWords 1 rfl) rfl ?_
  refine g_getR (n := 7) hx glX8_114 (sX6_13 (iX8_1 hb)) (dq tX8_tellWords 2 rfl) rfl ?_
  refine g_iload_n (n := 8) hx 1 (dq tX8_tellWords 3 rfl) rfl rfl ?_
  refine g_iald (n := 9) (q := log.toNat) hx (aX6_13 (b := b + 1) (iX8_1 hb)) (dq tX8_tellWords 4 rfl) rfl (by omega) (by omega) (by omega) rfl (fun h_1l h_1u => ?_)
  refine g_istore (n := 11) (lv' := [(5, vI (M (b + 1 + 8) log.toNat)), (0, aR Γ b), (1, vI log), (2, vI village), (3, vI owner), (4, vI room)]) hx (dq tX8_tellWords 5 rfl) (by decide) rfl rfl ?_
  refine g_aload_n (n := 12) hx 1 (dq tX8_tellWords 6 rfl) rfl rfl ?_
  refine g_getR (n := 15) hx glX8_29 (sX8_5 hb) (dq tX8_tellWords 7 rfl) rfl ?_
  refine g_iconst (n := 16) hx (dq tX8_tellWords 8 rfl) rfl ?_
  refine g_iload_n (n := 17) hx 2 (dq tX8_tellWords 9 rfl) rfl rfl ?_
  refine g_i2l (n := 18) hx (dq tX8_tellWords 10 rfl) rfl (zrI hlogl hlogu (by decide) (by decide)) ?_
  refine g_last (n := 19) hx (aX8_5 (b := b) hb) (dq tX8_tellWords 11 rfl) rfl (by decide) (by decide) (by decide) ?_
  refine g_aload_n (n := 20) hx 1 (dq tX8_tellWords 12 rfl) rfl rfl ?_
  refine g_getR (n := 23) hx glX8_29 (sX8_5 hb) (dq tX8_tellWords 13 rfl) rfl ?_
  refine g_iconst (n := 24) hx (dq tX8_tellWords 14 rfl) rfl ?_
  refine g_aload_n (n := 25) hx 1 (dq tX8_tellWords 15 rfl) rfl rfl ?_
  refine g_getR (n := 28) hx glX8_39 (sX8_0 hb) (dq tX8_tellWords 16 rfl) rfl ?_
  refine g_getR (n := 31) hx glX8_159 (sX2_8 (by decide)) (dq tX8_tellWords 17 rfl) rfl ?_
  refine g_iload_n (n := 32) hx 2 (dq tX8_tellWords 18 rfl) rfl rfl ?_
  refine g_iald (n := 33) (q := log.toNat) hx (aX2_8 (b := 37) (by decide)) (dq tX8_tellWords 19 rfl) rfl (by omega) (by omega) (by omega) rfl (fun h_2l h_2u => ?_)
  refine g_i2l (n := 34) hx (dq tX8_tellWords 20 rfl) rfl (zrI h_2l h_2u (by decide) (by decide)) ?_
  refine g_last (n := 35) hx (aX8_5 (b := b) hb) (dq tX8_tellWords 21 rfl) rfl (by decide) (by decide) (by decide) ?_
  refine g_aload_n (n := 36) hx 1 (dq tX8_tellWords 22 rfl) rfl rfl ?_
  refine g_getR (n := 39) hx glX8_29 (sX8_5 hb) (dq tX8_tellWords 23 rfl) rfl ?_
  refine g_iconst (n := 40) hx (dq tX8_tellWords 24 rfl) rfl ?_
  refine g_aload_n (n := 41) hx 1 (dq tX8_tellWords 25 rfl) rfl rfl ?_
  refine g_getR (n := 44) hx glX8_12 (sX8_1 hb) (dq tX8_tellWords 26 rfl) rfl ?_
  refine g_getR (n := 47) hx glX8_153 (sX6_9 (iX8_1 hb)) (dq tX8_tellWords 27 rfl) rfl ?_
  refine g_iload_n (n := 48) hx 2 (dq tX8_tellWords 28 rfl) rfl rfl ?_
  refine g_iald (n := 49) (q := log.toNat) hx (aX6_9 (b := b + 1) (iX8_1 hb)) (dq tX8_tellWords 29 rfl) rfl (by omega) (by omega) (by omega) rfl (fun h_3l h_3u => ?_)
  refine g_i2l (n := 50) hx (dq tX8_tellWords 30 rfl) rfl (zrI h_3l h_3u (by decide) (by decide)) ?_
  refine g_last (n := 51) hx (aX8_5 (b := b) hb) (dq tX8_tellWords 31 rfl) rfl (by decide) (by decide) (by decide) ?_
  refine g_aload_n (n := 52) hx 1 (dq tX8_tellWords 32 rfl) rfl rfl ?_
  refine g_getR (n := 55) hx glX8_29 (sX8_5 hb) (dq tX8_tellWords 33 rfl) rfl ?_
  refine g_iconst (n := 56) hx (dq tX8_tellWords 34 rfl) rfl ?_
  refine g_aload_n (n := 57) hx 1 (dq tX8_tellWords 35 rfl) rfl rfl ?_
  refine g_getR (n := 60) hx glX8_39 (sX8_0 hb) (dq tX8_tellWords 36 rfl) rfl ?_
  refine g_getR (n := 63) hx glX8_190 (sX2_10 (by decide)) (dq tX8_tellWords 37 rfl) rfl ?_
  refine g_iload_n (n := 64) hx 2 (dq tX8_tellWords 38 rfl) rfl rfl ?_
  refine g_iald (n := 65) (q := log.toNat) hx (aX2_10 (b := 37) (by decide)) (dq tX8_tellWords 39 rfl) rfl (by omega) (by omega) (by omega) rfl (fun h_4l h_4u => ?_)
  refine g_i2l (n := 66) hx (dq tX8_tellWords 40 rfl) rfl (zrI h_4l h_4u (by decide) (by decide)) ?_
  refine g_last (n := 67) hx (aX8_5 (b := b) hb) (dq tX8_tellWords 41 rfl) rfl (by decide) (by decide) (by decide) ?_
  refine g_aload_n (n := 68) hx 1 (dq tX8_tellWords 42 rfl) rfl rfl ?_
  refine g_getR (n := 71) hx glX8_29 (sX8_5 hb) (dq tX8_tellWords 43 rfl) rfl ?_
  refine g_iconst (n := 72) hx (dq tX8_tellWords 44 rfl) rfl ?_
  refine g_aload_n (n := 73) hx 1 (dq tX8_tellWords 45 rfl) rfl rfl ?_
  refine g_iload_n (n := 74) hx 2 (dq tX8_tellWords 46 rfl) rfl rfl ?_
  refine g_callVi (n := 77) (As := [vI log]) (rest := [vI 4, aR Γ (b + 25)]) hx (ctX8_bendOf Γ M b hb log (by omega) (by omega) (by omega) gd0) mlX8_165 (obX8 hb) (dq tX8_tellWords 47 rfl) rfl (Nat.le_of_ble_eq_true rfl) (Nat.le_of_ble_eq_true rfl) (Nat.le_of_ble_eq_true rfl) rfl (fun z_5 M_6 h_7 p_8 => ?_)
  obtain ⟨rfl, h_10, h_11, h_12⟩ := p_8
  refine g_i2l (n := 78) hx (dq tX8_tellWords 48 rfl) rfl h_7 ?_
  refine g_last (n := 79) hx (aX8_5 (b := b) hb) (dq tX8_tellWords 49 rfl) rfl (by decide) (by decide) (by decide) ?_
  refine g_aload_n (n := 80) hx 1 (dq tX8_tellWords 50 rfl) rfl rfl ?_
  refine g_getR (n := 83) hx glX8_29 (sX8_5 hb) (dq tX8_tellWords 51 rfl) rfl ?_
  refine g_iconst (n := 84) hx (dq tX8_tellWords 52 rfl) rfl ?_
  refine g_iload_n (n := 85) hx 3 (dq tX8_tellWords 53 rfl) rfl rfl ?_
  refine g_iconst (n := 86) hx (dq tX8_tellWords 54 rfl) rfl ?_
  have J_15 : ∀ (w_14 : Int64),  G Γ x 6 (QV Γ x (qctX8_tellWords M b log village owner room)) M 97 [(5, vI (M (b + 1 + 8) log.toNat)), (0, aR Γ b), (1, vI log), (2, vI village), (3, vI owner), (4, vI room)] [.long w_14, vI 5, aR Γ (b + 25)] := by
    intro w_14
    refine g_last (n := 98) hx (aX8_5 (b := b) hb) (dq tX8_tellWords 60 rfl) rfl (by decide) (by decide) (by decide) ?_
    refine g_aload_n (n := 99) hx 1 (dq tX8_tellWords 61 rfl) rfl rfl ?_
    refine g_getR (n := 102) hx glX8_29 (sX8_5 hb) (dq tX8_tellWords 62 rfl) rfl ?_
    refine g_bipush (n := 104) hx (dq tX8_tellWords 63 rfl) rfl (by decide) ?_
    refine g_iload_n (n := 105) hx 4 (dq tX8_tellWords 64 rfl) rfl rfl ?_
    refine g_iconst (n := 106) hx (dq tX8_tellWords 65 rfl) rfl ?_
    have J_18 : ∀ (w_17 : Int64),  G Γ x 6 (QV Γ x (qctX8_tellWords M b log village owner room)) M 117 [(5, vI (M (b + 1 + 8) log.toNat)), (0, aR Γ b), (1, vI log), (2, vI village), (3, vI owner), (4, vI room)] [.long w_17, vI 6, aR Γ (b + 25)] := by
      intro w_17
      refine g_last (n := 118) hx (aX8_5 (b := b) hb) (dq tX8_tellWords 71 rfl) rfl (by decide) (by decide) (by decide) ?_
      refine g_aload_n (n := 119) hx 1 (dq tX8_tellWords 72 rfl) rfl rfl ?_
      refine g_getR (n := 122) hx glX8_29 (sX8_5 hb) (dq tX8_tellWords 73 rfl) rfl ?_
      refine g_bipush (n := 124) hx (dq tX8_tellWords 74 rfl) rfl (by decide) ?_
      refine g_iload (n := 126) hx 0 (dq tX8_tellWords 75 rfl) rfl rfl ?_
      refine g_iconst (n := 127) hx (dq tX8_tellWords 76 rfl) rfl ?_
      have J_21 : ∀ (w_20 : Int64),  G Γ x 6 (QV Γ x (qctX8_tellWords M b log village owner room)) M 149 [(5, vI (M (b + 1 + 8) log.toNat)), (0, aR Γ b), (1, vI log), (2, vI village), (3, vI owner), (4, vI room)] [.long w_20, vI 7, aR Γ (b + 25)] := by
        intro w_20
        refine g_last (n := 150) hx (aX8_5 (b := b) hb) (dq tX8_tellWords 88 rfl) rfl (by decide) (by decide) (by decide) ?_
        refine g_aload_n (n := 151) hx 1 (dq tX8_tellWords 89 rfl) rfl rfl ?_
        refine g_getR (n := 154) hx glX8_29 (sX8_5 hb) (dq tX8_tellWords 90 rfl) rfl ?_
        refine g_bipush (n := 156) hx (dq tX8_tellWords 91 rfl) rfl (by decide) ?_
        refine g_iload (n := 158) hx 0 (dq tX8_tellWords 92 rfl) rfl rfl ?_
        refine g_iconst (n := 159) hx (dq tX8_tellWords 93 rfl) rfl ?_
        have J_24 : ∀ (w_23 : Int64),  G Γ x 6 (QV Γ x (qctX8_tellWords M b log village owner room)) M 186 [(5, vI (M (b + 1 + 8) log.toNat)), (0, aR Γ b), (1, vI log), (2, vI village), (3, vI owner), (4, vI room)] [.long w_23, vI 8, aR Γ (b + 25)] := by
          intro w_23
          refine g_last (n := 187) hx (aX8_5 (b := b) hb) (dq tX8_tellWords 109 rfl) rfl (by decide) (by decide) (by decide) ?_
          refine g_aload_n (n := 188) hx 1 (dq tX8_tellWords 110 rfl) rfl rfl ?_
          refine g_getR (n := 191) hx glX8_29 (sX8_5 hb) (dq tX8_tellWords 111 rfl) rfl ?_
          refine g_bipush (n := 193) hx (dq tX8_tellWords 112 rfl) rfl (by decide) ?_
          refine g_iload (n := 195) hx 0 (dq tX8_tellWords 113 rfl) rfl rfl ?_
          refine g_i2l (n := 196) hx (dq tX8_tellWords 114 rfl) rfl (zrI h_1l h_1u (by decide) (by decide)) ?_
          refine g_last (n := 197) hx (aX8_5 (b := b) hb) (dq tX8_tellWords 115 rfl) rfl (by decide) (by decide) (by decide) ?_
          refine g_aload_n (n := 198) hx 1 (dq tX8_tellWords 116 rfl) rfl rfl ?_
          refine g_getR (n := 201) hx glX8_29 (sX8_5 hb) (dq tX8_tellWords 117 rfl) rfl ?_
          refine g_bipush (n := 203) hx (dq tX8_tellWords 118 rfl) rfl (by decide) ?_
          refine g_iload (n := 205) hx 5 (dq tX8_tellWords 119 rfl) rfl rfl ?_
          refine g_i2l (n := 206) hx (dq tX8_tellWords 120 rfl) rfl (zrI hrooml hroomu (by decide) (by decide)) ?_
          refine g_last (n := 207) hx (aX8_5 (b := b) hb) (dq tX8_tellWords 121 rfl) rfl (by decide) (by decide) (by decide) ?_
          refine g_aload_n (n := 208) hx 1 (dq tX8_tellWords 122 rfl) rfl rfl ?_
          refine g_getR (n := 211) hx glX8_29 (sX8_5 hb) (dq tX8_tellWords 123 rfl) rfl ?_
          refine g_bipush (n := 213) hx (dq tX8_tellWords 124 rfl) rfl (by decide) ?_
          refine g_aload_n (n := 214) hx 1 (dq tX8_tellWords 125 rfl) rfl rfl ?_
          refine g_getR (n := 217) hx glX8_12 (sX8_1 hb) (dq tX8_tellWords 126 rfl) rfl ?_
          refine g_getI (n := 220) hx glX8_195 (sX6_1 (iX8_1 hb)) (dq tX8_tellWords 127 rfl) rfl (fun h_25l h_25u => ?_)
          refine g_i2l (n := 221) hx (dq tX8_tellWords 128 rfl) rfl (zrI h_25l h_25u (by decide) (by decide)) ?_
          refine g_last (n := 222) hx (aX8_5 (b := b) hb) (dq tX8_tellWords 129 rfl) rfl (by decide) (by decide) (by decide) ?_
          refine g_aload_n (n := 223) hx 1 (dq tX8_tellWords 130 rfl) rfl rfl ?_
          refine g_getR (n := 226) hx glX8_29 (sX8_5 hb) (dq tX8_tellWords 131 rfl) rfl ?_
          refine g_bipush (n := 228) hx (dq tX8_tellWords 132 rfl) rfl (by decide) ?_
          refine g_aload_n (n := 229) hx 1 (dq tX8_tellWords 133 rfl) rfl rfl ?_
          refine g_getR (n := 232) hx glX8_12 (sX8_1 hb) (dq tX8_tellWords 134 rfl) rfl ?_
          refine g_getI (n := 235) hx glX8_96 (sX6_0 (iX8_1 hb)) (dq tX8_tellWords 135 rfl) rfl (fun h_26l h_26u => ?_)
          refine g_i2l (n := 236) hx (dq tX8_tellWords 136 rfl) rfl (zrI h_26l h_26u (by decide) (by decide)) ?_
          refine g_last (n := 237) hx (aX8_5 (b := b) hb) (dq tX8_tellWords 137 rfl) rfl (by decide) (by decide) (by decide) ?_
          exact g_vret hx hr (dq tX8_tellWords 138 rfl) rfl
        refine g_icmp_ge (n := 162) (t := 168) hx (dq tX8_tellWords 94 rfl) (by decide) rfl (zrI h_1l h_1u (by decide) (by decide)) ⟨by decide, by decide⟩ (fun c_22 => ?_) (fun c_22 => ?_)
        · refine g_aload_n (n := 169) hx 1 (dq tX8_tellWords 97 rfl) rfl rfl ?_
          refine g_getR (n := 172) hx glX8_12 (sX8_1 hb) (dq tX8_tellWords 98 rfl) rfl ?_
          refine g_getR (n := 175) hx glX8_143 (sX6_14 (iX8_1 hb)) (dq tX8_tellWords 99 rfl) rfl ?_
          refine g_iload_n (n := 176) hx 2 (dq tX8_tellWords 100 rfl) rfl rfl ?_
          refine g_bipush (n := 178) hx (dq tX8_tellWords 101 rfl) rfl (by decide) ?_
          refine g_imul (n := 179) hx (dq tX8_tellWords 102 rfl) rfl ?_
          refine g_iload (n := 181) hx 0 (dq tX8_tellWords 103 rfl) rfl rfl ?_
          refine g_iadd (n := 182) hx (dq tX8_tellWords 104 rfl) rfl ?_
          refine g_iconst (n := 183) hx (dq tX8_tellWords 105 rfl) rfl ?_
          refine g_isub (n := 184) hx (dq tX8_tellWords 106 rfl) rfl ?_
          refine g_iald (n := 185) (q := (((log * 6) + (M (b + 1 + 8) log.toNat)) - 1).toNat) hx (aX6_14 (b := b + 1) (iX8_1 hb)) (dq tX8_tellWords 107 rfl) rfl (by omega) (by omega) (by omega) rfl (fun h_27l h_27u => ?_)
          refine g_i2l (n := 186) hx (dq tX8_tellWords 108 rfl) rfl (zrI h_27l h_27u (by decide) (by decide)) ?_
          exact J_24 (Int64.ofInt (M (b + 1 + 9) ((((log * 6) + (M (b + 1 + 8) log.toNat)) - 1).toNat)))
        · refine g_ldc2 (n := 165) (z := 9) hx wd_752 (by decide) (dq tX8_tellWords 95 rfl) rfl ?_
          refine g_goto (n := 186) hx (dq tX8_tellWords 96 rfl) (by decide) ?_
          exact J_24 (Int64.ofInt 9)
      refine g_icmp_ge (n := 130) (t := 136) hx (dq tX8_tellWords 77 rfl) (by decide) rfl (zrI h_1l h_1u (by decide) (by decide)) ⟨by decide, by decide⟩ (fun c_19 => ?_) (fun c_19 => ?_)
      · refine g_aload_n (n := 137) hx 1 (dq tX8_tellWords 80 rfl) rfl rfl ?_
        refine g_getR (n := 140) hx glX8_12 (sX8_1 hb) (dq tX8_tellWords 81 rfl) rfl ?_
        refine g_getR (n := 143) hx glX8_143 (sX6_14 (iX8_1 hb)) (dq tX8_tellWords 82 rfl) rfl ?_
        refine g_iload_n (n := 144) hx 2 (dq tX8_tellWords 83 rfl) rfl rfl ?_
        refine g_bipush (n := 146) hx (dq tX8_tellWords 84 rfl) rfl (by decide) ?_
        refine g_imul (n := 147) hx (dq tX8_tellWords 85 rfl) rfl ?_
        refine g_iald (n := 148) (q := (log * 6).toNat) hx (aX6_14 (b := b + 1) (iX8_1 hb)) (dq tX8_tellWords 86 rfl) rfl (by omega) (by omega) (by omega) rfl (fun h_28l h_28u => ?_)
        refine g_i2l (n := 149) hx (dq tX8_tellWords 87 rfl) rfl (zrI h_28l h_28u (by decide) (by decide)) ?_
        exact J_21 (Int64.ofInt (M (b + 1 + 9) ((log * 6).toNat)))
      · refine g_ldc2 (n := 133) (z := 9) hx wd_752 (by decide) (dq tX8_tellWords 78 rfl) rfl ?_
        refine g_goto (n := 149) hx (dq tX8_tellWords 79 rfl) (by decide) ?_
        exact J_21 (Int64.ofInt 9)
    refine g_icmp_ne (n := 109) (t := 115) hx (dq tX8_tellWords 66 rfl) (by decide) rfl (zrI hownerl howneru (by decide) (by decide)) ⟨by decide, by decide⟩ (fun c_16 => ?_) (fun c_16 => ?_)
    · refine g_iload_n (n := 116) hx 4 (dq tX8_tellWords 69 rfl) rfl rfl ?_
      refine g_i2l (n := 117) hx (dq tX8_tellWords 70 rfl) rfl (zrI hownerl howneru (by decide) (by decide)) ?_
      exact J_18 (Int64.ofInt owner)
    · refine g_ldc2 (n := 112) (z := 9) hx wd_752 (by decide) (dq tX8_tellWords 67 rfl) rfl ?_
      refine g_goto (n := 117) hx (dq tX8_tellWords 68 rfl) (by decide) ?_
      exact J_18 (Int64.ofInt 9)
  refine g_icmp_ne (n := 89) (t := 95) hx (dq tX8_tellWords 55 rfl) (by decide) rfl (zrI hvillagel hvillageu (by decide) (by decide)) ⟨by decide, by decide⟩ (fun c_13 => ?_) (fun c_13 => ?_)
  · refine g_iload_n (n := 96) hx 3 (dq tX8_tellWords 58 rfl) rfl rfl ?_
    refine g_i2l (n := 97) hx (dq tX8_tellWords 59 rfl) rfl (zrI hvillagel hvillageu (by decide) (by decide)) ?_
    exact J_15 (Int64.ofInt village)
  · refine g_ldc2 (n := 92) (z := 9) hx wd_752 (by decide) (dq tX8_tellWords 56 rfl) rfl ?_
    refine g_goto (n := 97) hx (dq tX8_tellWords 57 rfl) (by decide) ?_
    exact J_15 (Int64.ofInt 9)

abbrev qctX8_ownerOf (M : zM) (b : Nat) (log : Int) (z : Int) (M' : zM) : Prop := M = M' ∧ (-1) ≤ z ∧ z ≤ 5
set_option maxHeartbeats 4000000 in
set_option maxRecDepth 100000 in
theorem ctX8_ownerOf (Γ : Gam) (M : zM) (b : Nat) (hb : isX8 b) (log : Int) (hlogl : 0 ≤ log) (hlogu : log ≤ 11) (pre0 : log < M 37 3) (gd0 : Gd M 37 (b + 1)) : CtI Γ yX8_ownerOf cX8_ownerOf 10 (some .int) 2 50 [aR Γ b, vI log] M (qctX8_ownerOf M b log) := by
  refine met_i (by decide) (Nat.le_of_ble_eq_true rfl) (fun x hx hr => ?_)
  show G Γ x 10 (QI Γ x (qctX8_ownerOf M b log)) M 0 [(0, aR Γ b), (1, vI log)] []
  refine g_aload_n (n := 1) hx 0 (dq tX8_ownerOf 0 rfl) rfl rfl ?_
  refine g_getR (n := 4) hx glX8_12 (sX8_1 hb) (dq tX8_ownerOf 1 rfl) rfl ?_
  refine g_getR (n := 7) hx glX8_114 (sX6_13 (iX8_1 hb)) (dq tX8_ownerOf 2 rfl) rfl ?_
  refine g_iload_n (n := 8) hx 1 (dq tX8_ownerOf 3 rfl) rfl rfl ?_
  refine g_iald (n := 9) (q := log.toNat) hx (aX6_13 (b := b + 1) (iX8_1 hb)) (dq tX8_ownerOf 4 rfl) rfl (by omega) (by omega) (by omega) rfl (fun h_1l h_1u => ?_)
  refine g_istore_n (n := 10) (lv' := [(2, vI (M (b + 1 + 8) log.toNat)), (0, aR Γ b), (1, vI log)]) hx (dq tX8_ownerOf 5 rfl) (by decide) rfl rfl ?_
  refine g_iload_n (n := 11) hx 0 (dq tX8_ownerOf 6 rfl) rfl rfl ?_
  refine g_iconst (n := 12) hx (dq tX8_ownerOf 7 rfl) rfl ?_
  refine g_icmp_lt (n := 15) (t := 26) hx (dq tX8_ownerOf 8 rfl) (by decide) rfl (zrI h_1l h_1u (by decide) (by decide)) ⟨by decide, by decide⟩ (fun c_2 => ?_) (fun c_2 => ?_)
  · refine g_aload_n (n := 27) hx 1 (dq tX8_ownerOf 14 rfl) rfl rfl ?_
    refine g_getR (n := 30) hx glX8_12 (sX8_1 hb) (dq tX8_ownerOf 15 rfl) rfl ?_
    refine g_iload_n (n := 31) hx 2 (dq tX8_ownerOf 16 rfl) rfl rfl ?_
    refine g_aload_n (n := 32) hx 1 (dq tX8_ownerOf 17 rfl) rfl rfl ?_
    refine g_getR (n := 35) hx glX8_12 (sX8_1 hb) (dq tX8_ownerOf 18 rfl) rfl ?_
    refine g_getI (n := 38) hx glX8_117 (sX6_3 (iX8_1 hb)) (dq tX8_ownerOf 19 rfl) rfl (fun h_3l h_3u => ?_)
    refine g_if_ne (n := 41) (t := 45) hx (dq tX8_ownerOf 20 rfl) (by decide) rfl (zrI h_3l h_3u (by decide) (by decide)) (fun c_4 => ?_) (fun c_4 => ?_)
    · refine g_iload_n (n := 46) hx 0 (dq tX8_ownerOf 23 rfl) rfl rfl ?_
      refine g_iconst (n := 47) hx (dq tX8_ownerOf 24 rfl) rfl ?_
      refine g_isub (n := 48) hx (dq tX8_ownerOf 25 rfl) rfl ?_
      refine g_callVi (n := 51) (As := [vI log, vI ((M (b + 1 + 8) log.toNat) - 1)]) (rest := []) hx (ctX6_notchAt Γ M (b + 1) (iX8_1 hb) log (by omega) (by omega) ((M (b + 1 + 8) log.toNat) - 1) (by omega) (by omega)) mlX8_120 (obX6 (iX8_1 hb)) (dq tX8_ownerOf 26 rfl) rfl (Nat.le_of_ble_eq_true rfl) (Nat.le_of_ble_eq_true rfl) (Nat.le_of_ble_eq_true rfl) rfl (fun z_5 M_6 h_7 p_8 => ?_)
      obtain ⟨rfl, h_10, h_11, h_12⟩ := p_8
      exact g_iret hx hr (dq tX8_ownerOf 27 rfl) h_7 ⟨rfl, (by omega), (by omega)⟩
    · refine g_iconst (n := 42) hx (dq tX8_ownerOf 21 rfl) rfl ?_
      refine g_goto (n := 48) hx (dq tX8_ownerOf 22 rfl) (by decide) ?_
      refine g_callVi (n := 51) (As := [vI log, vI 0]) (rest := []) hx (ctX6_notchAt Γ M (b + 1) (iX8_1 hb) log (by omega) (by omega) 0 (by decide) (by decide)) mlX8_120 (obX6 (iX8_1 hb)) (dq tX8_ownerOf 26 rfl) rfl (Nat.le_of_ble_eq_true rfl) (Nat.le_of_ble_eq_true rfl) (Nat.le_of_ble_eq_true rfl) rfl (fun z_13 M_14 h_15 p_16 => ?_)
      obtain ⟨rfl, h_18, h_19, h_20⟩ := p_16
      exact g_iret hx hr (dq tX8_ownerOf 27 rfl) h_15 ⟨rfl, (by omega), (by omega)⟩
  · refine g_aload_n (n := 16) hx 1 (dq tX8_ownerOf 9 rfl) rfl rfl ?_
    refine g_getR (n := 19) hx glX8_12 (sX8_1 hb) (dq tX8_ownerOf 10 rfl) rfl ?_
    refine g_getI (n := 22) hx glX8_117 (sX6_3 (iX8_1 hb)) (dq tX8_ownerOf 11 rfl) rfl (fun h_21l h_21u => ?_)
    refine g_iconst (n := 23) hx (dq tX8_ownerOf 12 rfl) rfl ?_
    refine g_icmp_ge (n := 26) (t := 52) hx (dq tX8_ownerOf 13 rfl) (by decide) rfl (zrI h_21l h_21u (by decide) (by decide)) ⟨by decide, by decide⟩ (fun c_22 => ?_) (fun c_22 => ?_)
    · refine g_iconst (n := 53) hx (dq tX8_ownerOf 28 rfl) rfl ?_
      refine g_istore_n (n := 54) (lv' := [(3, vI (-1)), (2, vI (M (b + 1 + 8) log.toNat)), (0, aR Γ b), (1, vI log)]) hx (dq tX8_ownerOf 29 rfl) (by decide) rfl rfl ?_
      refine g_lconst (n := 55) (z := 0) hx (dq tX8_ownerOf 30 rfl) rfl (by decide) ?_
      refine g_lstore (n := 57) (lv' := [(4, vL 0), (3, vI (-1)), (2, vI (M (b + 1 + 8) log.toNat)), (0, aR Γ b), (1, vI log)]) hx (dq tX8_ownerOf 31 rfl) (by decide) rfl rfl ?_
      refine g_iconst (n := 58) hx (dq tX8_ownerOf 32 rfl) rfl ?_
      refine g_istore (n := 60) (lv' := [(6, vI 0), (4, vL 0), (3, vI (-1)), (2, vI (M (b + 1 + 8) log.toNat)), (0, aR Γ b), (1, vI log)]) hx (dq tX8_ownerOf 33 rfl) (by decide) rfl rfl ?_
      have L_26 : ∀ (n_ : Nat) (i_23 : Int) (i_24 : Int) (i_25 : Int64), (0 ≤ i_23) → (i_23 ≤ 6) → ((-1) ≤ i_24) → (i_24 ≤ 5) → ((6 - i_23).toNat = n_) → G Γ x 10 (QI Γ x (qctX8_ownerOf M b log)) M 60 [(6, vI i_23), (4, .long i_25), (3, vI i_24), (2, vI (M (b + 1 + 8) log.toNat)), (0, aR Γ b), (1, vI log)] [] := by
        intro n_
        induction n_ using Nat.strongRecOn with
        | _ n_ ih_27 =>
          intro i_23 i_24 i_25 h_30 h_31 h_32 h_33 hm_29
          refine g_iload (n := 62) hx 0 (dq tX8_ownerOf 34 rfl) rfl rfl ?_
          refine g_aload_n (n := 63) hx 4 (dq tX8_ownerOf 35 rfl) rfl rfl ?_
          refine g_getR (n := 66) hx glX8_39 (sX8_0 hb) (dq tX8_ownerOf 36 rfl) rfl ?_
          refine g_getI (n := 69) hx glX8_93 (sX2_1 (by decide)) (dq tX8_ownerOf 37 rfl) rfl (fun h_34l h_34u => ?_)
          refine g_icmp_ge (n := 72) (t := 175) hx (dq tX8_ownerOf 38 rfl) (by decide) rfl ⟨by omega, by omega⟩ (zrI h_34l h_34u (by decide) (by decide)) (fun c_35 => ?_) (fun c_35 => ?_)
          · refine g_iload_n (n := 176) hx 2 (dq tX8_ownerOf 91 rfl) rfl rfl ?_
            exact g_iret hx hr (dq tX8_ownerOf 92 rfl) ⟨by omega, by omega⟩ ⟨rfl, (by omega), (by omega)⟩
          · refine g_aload_n (n := 73) hx 4 (dq tX8_ownerOf 39 rfl) rfl rfl ?_
            refine g_iload_n (n := 74) hx 5 (dq tX8_ownerOf 40 rfl) rfl rfl ?_
            refine g_iload (n := 76) hx 0 (dq tX8_ownerOf 41 rfl) rfl rfl ?_
            refine g_callVi (n := 79) (As := [vI log, vI i_23]) (rest := []) hx (ctX8_notchesOf Γ M b hb log (by omega) (by omega) i_23 (by omega) (by omega)) mlX8_123 (obX8 hb) (dq tX8_ownerOf 42 rfl) rfl (Nat.le_of_ble_eq_true rfl) (Nat.le_of_ble_eq_true rfl) (Nat.le_of_ble_eq_true rfl) rfl (fun z_36 M_37 h_38 p_39 => ?_)
            obtain rfl := p_39
            refine g_i2l (n := 80) hx (dq tX8_ownerOf 43 rfl) rfl h_38 ?_
            refine g_lstore (n := 82) (lv' := [(7, vL z_36), (6, vI i_23), (4, .long i_25), (3, vI i_24), (2, vI (M (b + 1 + 8) log.toNat)), (0, aR Γ b), (1, vI log)]) hx (dq tX8_ownerOf 44 rfl) (by decide) rfl rfl ?_
            refine g_lload (n := 84) hx 0 (dq tX8_ownerOf 45 rfl) rfl rfl ?_
            refine g_lconst (n := 85) (z := 0) hx (dq tX8_ownerOf 46 rfl) rfl (by decide) ?_
            refine g_lcmp (n := 86) hx (dq tX8_ownerOf 47 rfl) rfl (by omega) (by omega) (by omega) (by omega) (fun z_41 h_42 => ?_)
            refine g_if_ne (n := 89) (t := 92) hx (dq tX8_ownerOf 48 rfl) (by decide) rfl ⟨by omega, by omega⟩ (fun c_43 => ?_) (fun c_43 => ?_)
            · have h_44 : z_36 ≠ 0 := by omega
              clear h_42
              refine g_aload_n (n := 93) hx 5 (dq tX8_ownerOf 50 rfl) rfl rfl ?_
              refine g_getR (n := 96) hx glX8_12 (sX8_1 hb) (dq tX8_ownerOf 51 rfl) rfl ?_
              refine g_getI (n := 99) hx glX8_117 (sX6_3 (iX8_1 hb)) (dq tX8_ownerOf 52 rfl) rfl (fun h_45l h_45u => ?_)
              refine g_iconst (n := 100) hx (dq tX8_ownerOf 53 rfl) rfl ?_
              refine g_icmp_ne (n := 103) (t := 149) hx (dq tX8_ownerOf 54 rfl) (by decide) rfl (zrI h_45l h_45u (by decide) (by decide)) ⟨by decide, by decide⟩ (fun c_46 => ?_) (fun c_46 => ?_)
              · refine g_iload_n (n := 150) hx 3 (dq tX8_ownerOf 78 rfl) rfl rfl ?_
                refine g_iconst (n := 151) hx (dq tX8_ownerOf 79 rfl) rfl ?_
                refine g_icmp_eq (n := 154) (t := 162) hx (dq tX8_ownerOf 80 rfl) (by decide) rfl ⟨by omega, by omega⟩ ⟨by decide, by decide⟩ (fun c_47 => ?_) (fun c_47 => ?_)
                · refine g_iload (n := 164) hx 1 (dq tX8_ownerOf 85 rfl) rfl rfl ?_
                  refine g_istore_n (n := 165) (lv' := [(3, vI i_23), (7, vL z_36), (6, vI i_23), (4, .long i_25), (2, vI (M (b + 1 + 8) log.toNat)), (0, aR Γ b), (1, vI log)]) hx (dq tX8_ownerOf 86 rfl) (by decide) rfl rfl ?_
                  refine g_lload (n := 167) hx 1 (dq tX8_ownerOf 87 rfl) rfl rfl ?_
                  refine g_lstore (n := 169) (lv' := [(4, vL z_36), (3, vI i_23), (7, vL z_36), (6, vI i_23), (2, vI (M (b + 1 + 8) log.toNat)), (0, aR Γ b), (1, vI log)]) hx (dq tX8_ownerOf 88 rfl) (by decide) rfl rfl ?_
                  refine g_iinc (n := 172) (lv' := [(6, vI (i_23 + 1)), (4, vL z_36), (3, vI i_23), (7, vL z_36), (2, vI (M (b + 1 + 8) log.toNat)), (0, aR Γ b), (1, vI log)]) hx 3 (dq tX8_ownerOf 89 rfl) rfl (by decide) rfl rfl ?_
                  refine g_goto (n := 60) hx (dq tX8_ownerOf 90 rfl) (by decide) ?_
                  refine g_lv [0, 1, 2, 4, 5, 6] rfl ?_
                  exact ih_27 _ (by omega) (i_23 + 1) i_23 (Int64.ofInt z_36) (by omega) (by omega) (by omega) (by omega) rfl
                · refine g_lload (n := 156) hx 0 (dq tX8_ownerOf 81 rfl) rfl rfl ?_
                  refine g_lload (n := 158) hx 2 (dq tX8_ownerOf 82 rfl) rfl rfl ?_
                  refine g_lcmpU (n := 159) hx (dq tX8_ownerOf 83 rfl) rfl (fun z_48 h_491 h_492 h_493 h_494 => ?_)
                  refine g_if_le (n := 162) (t := 169) hx (dq tX8_ownerOf 84 rfl) (by decide) rfl ⟨by omega, by omega⟩ (fun c_50 => ?_) (fun c_50 => ?_)
                  · refine g_iinc (n := 172) (lv' := [(6, vI (i_23 + 1)), (7, vL z_36), (4, .long i_25), (3, vI i_24), (2, vI (M (b + 1 + 8) log.toNat)), (0, aR Γ b), (1, vI log)]) hx 1 (dq tX8_ownerOf 89 rfl) rfl (by decide) rfl rfl ?_
                    refine g_goto (n := 60) hx (dq tX8_ownerOf 90 rfl) (by decide) ?_
                    refine g_lv [0, 2, 3, 4, 5, 6] rfl ?_
                    exact ih_27 _ (by omega) (i_23 + 1) i_24 i_25 (by omega) (by omega) (by omega) (by omega) rfl
                  · refine g_iload (n := 164) hx 1 (dq tX8_ownerOf 85 rfl) rfl rfl ?_
                    refine g_istore_n (n := 165) (lv' := [(3, vI i_23), (7, vL z_36), (6, vI i_23), (4, .long i_25), (2, vI (M (b + 1 + 8) log.toNat)), (0, aR Γ b), (1, vI log)]) hx (dq tX8_ownerOf 86 rfl) (by decide) rfl rfl ?_
                    refine g_lload (n := 167) hx 1 (dq tX8_ownerOf 87 rfl) rfl rfl ?_
                    refine g_lstore (n := 169) (lv' := [(4, vL z_36), (3, vI i_23), (7, vL z_36), (6, vI i_23), (2, vI (M (b + 1 + 8) log.toNat)), (0, aR Γ b), (1, vI log)]) hx (dq tX8_ownerOf 88 rfl) (by decide) rfl rfl ?_
                    refine g_iinc (n := 172) (lv' := [(6, vI (i_23 + 1)), (4, vL z_36), (3, vI i_23), (7, vL z_36), (2, vI (M (b + 1 + 8) log.toNat)), (0, aR Γ b), (1, vI log)]) hx 3 (dq tX8_ownerOf 89 rfl) rfl (by decide) rfl rfl ?_
                    refine g_goto (n := 60) hx (dq tX8_ownerOf 90 rfl) (by decide) ?_
                    refine g_lv [0, 1, 2, 4, 5, 6] rfl ?_
                    exact ih_27 _ (by omega) (i_23 + 1) i_23 (Int64.ofInt z_36) (by omega) (by omega) (by omega) (by omega) rfl
              · refine g_aload_n (n := 104) hx 5 (dq tX8_ownerOf 55 rfl) rfl rfl ?_
                refine g_getR (n := 107) hx glX8_43 (sX8_4 hb) (dq tX8_ownerOf 56 rfl) rfl ?_
                refine g_aload_n (n := 108) hx 5 (dq tX8_ownerOf 57 rfl) rfl rfl ?_
                refine g_getR (n := 111) hx glX8_12 (sX8_1 hb) (dq tX8_ownerOf 58 rfl) rfl ?_
                refine g_getI (n := 114) hx glX8_126 (sX6_4 (iX8_1 hb)) (dq tX8_ownerOf 59 rfl) rfl (fun h_51l h_51u => ?_)
                refine g_aald (n := 115) (q := (M (b + 1) 4).toNat) hx (aX8_4 (b := b) hb) (by decide) (dq tX8_ownerOf 60 rfl) rfl (by omega) (by omega) (by omega) rfl ?_
                refine g_named (c := zrf 1 ((M (b + 1) 4).toNat)) (fun o_52 eo_52 => ?_)
                have o_53 : isX4 o_52 := by rw [eo_52]; exact zrfX4 ((M (b + 1) 4).toNat) (by omega)
                refine g_astore (n := 117) (lv' := [(9, aR Γ o_52), (7, vL z_36), (6, vI i_23), (4, .long i_25), (3, vI i_24), (2, vI (M (b + 1 + 8) log.toNat)), (0, aR Γ b), (1, vI log)]) hx (dq tX8_ownerOf 61 rfl) (by decide) rfl rfl ?_
                refine g_aload_n (n := 118) hx 6 (dq tX8_ownerOf 62 rfl) rfl rfl ?_
                refine g_iload_n (n := 119) hx 7 (dq tX8_ownerOf 63 rfl) rfl rfl ?_
                refine g_iload (n := 121) hx 2 (dq tX8_ownerOf 64 rfl) rfl rfl ?_
                refine g_iconst (n := 122) hx (dq tX8_ownerOf 65 rfl) rfl ?_
                refine g_iconst (n := 123) hx (dq tX8_ownerOf 66 rfl) rfl ?_
                refine g_callVv (n := 126) (As := [vI log, vI i_23, vI (-1), vI 0]) (rest := []) hx (ctX8_tellWords Γ M b hb log (by omega) (by omega) i_23 (by omega) (by omega) (-1) (by decide) (by decide) 0 (by decide) (by decide) (by omega) gd0) mlX8_129 (obX8 hb) (dq tX8_ownerOf 67 rfl) rfl (Nat.le_of_ble_eq_true rfl) (Nat.le_of_ble_eq_true rfl) (Nat.le_of_ble_eq_true rfl) rfl (fun M_55 p_57 => ?_)
                obtain rfl := p_57
                refine g_aload (n := 128) hx 0 (dq tX8_ownerOf 68 rfl) rfl rfl ?_
                refine g_iconst (n := 129) hx (dq tX8_ownerOf 69 rfl) rfl ?_
                refine g_aload_n (n := 130) hx 6 (dq tX8_ownerOf 70 rfl) rfl rfl ?_
                refine g_getR (n := 133) hx glX8_29 (sX8_5 hb) (dq tX8_ownerOf 71 rfl) rfl ?_
                refine g_callVi (n := 136) (As := [vI 4, aR Γ (b + 25)]) (rest := []) hx (ctX4_finds Γ M o_52 o_53 4 (by decide) (by decide) (b + 25) (aX8_5 (b := b) hb)) mlX8_133 (obX4 o_53) (dq tX8_ownerOf 72 rfl) rfl (Nat.le_of_ble_eq_true rfl) (Nat.le_of_ble_eq_true rfl) (Nat.le_of_ble_eq_true rfl) rfl (fun z_59 M_60 h_61 p_62 => ?_)
                obtain ⟨rfl, b_64⟩ := p_62
                refine g_if_ne (n := 139) (t := 142) hx (dq tX8_ownerOf 73 rfl) (by decide) rfl h_61 (fun c_65 => ?_) (fun c_65 => ?_)
                · have b_64 := b_64.resolve_left c_65
                  obtain ⟨-⟩ := b_64
                  refine g_aload (n := 144) hx 0 (dq tX8_ownerOf 75 rfl) rfl rfl ?_
                  refine g_getJ (n := 147) hx glX8_139 (sX4_5 o_53) (dq tX8_ownerOf 76 rfl) rfl (fun w_66 => ?_)
                  refine g_lstore (n := 149) (lv' := [(7, .long w_66), (9, aR Γ o_52), (6, vI i_23), (4, .long i_25), (3, vI i_24), (2, vI (M (b + 1 + 8) log.toNat)), (0, aR Γ b), (1, vI log)]) hx (dq tX8_ownerOf 77 rfl) (by decide) rfl rfl ?_
                  refine g_iload_n (n := 150) hx 4 (dq tX8_ownerOf 78 rfl) rfl rfl ?_
                  refine g_iconst (n := 151) hx (dq tX8_ownerOf 79 rfl) rfl ?_
                  refine g_icmp_eq (n := 154) (t := 162) hx (dq tX8_ownerOf 80 rfl) (by decide) rfl ⟨by omega, by omega⟩ ⟨by decide, by decide⟩ (fun c_67 => ?_) (fun c_67 => ?_)
                  · refine g_iload (n := 164) hx 2 (dq tX8_ownerOf 85 rfl) rfl rfl ?_
                    refine g_istore_n (n := 165) (lv' := [(3, vI i_23), (7, .long w_66), (9, aR Γ o_52), (6, vI i_23), (4, .long i_25), (2, vI (M (b + 1 + 8) log.toNat)), (0, aR Γ b), (1, vI log)]) hx (dq tX8_ownerOf 86 rfl) (by decide) rfl rfl ?_
                    refine g_lload (n := 167) hx 1 (dq tX8_ownerOf 87 rfl) rfl rfl ?_
                    refine g_lstore (n := 169) (lv' := [(4, .long w_66), (3, vI i_23), (7, .long w_66), (9, aR Γ o_52), (6, vI i_23), (2, vI (M (b + 1 + 8) log.toNat)), (0, aR Γ b), (1, vI log)]) hx (dq tX8_ownerOf 88 rfl) (by decide) rfl rfl ?_
                    refine g_iinc (n := 172) (lv' := [(6, vI (i_23 + 1)), (4, .long w_66), (3, vI i_23), (7, .long w_66), (9, aR Γ o_52), (2, vI (M (b + 1 + 8) log.toNat)), (0, aR Γ b), (1, vI log)]) hx 4 (dq tX8_ownerOf 89 rfl) rfl (by decide) rfl rfl ?_
                    refine g_goto (n := 60) hx (dq tX8_ownerOf 90 rfl) (by decide) ?_
                    refine g_lv [0, 1, 2, 5, 6, 7] rfl ?_
                    exact ih_27 _ (by omega) (i_23 + 1) i_23 w_66 (by omega) (by omega) (by omega) (by omega) rfl
                  · refine g_lload (n := 156) hx 0 (dq tX8_ownerOf 81 rfl) rfl rfl ?_
                    refine g_lload (n := 158) hx 3 (dq tX8_ownerOf 82 rfl) rfl rfl ?_
                    refine g_lcmpU (n := 159) hx (dq tX8_ownerOf 83 rfl) rfl (fun z_68 h_691 h_692 h_693 h_694 => ?_)
                    refine g_if_le (n := 162) (t := 169) hx (dq tX8_ownerOf 84 rfl) (by decide) rfl ⟨by omega, by omega⟩ (fun c_70 => ?_) (fun c_70 => ?_)
                    · refine g_iinc (n := 172) (lv' := [(6, vI (i_23 + 1)), (7, .long w_66), (9, aR Γ o_52), (4, .long i_25), (3, vI i_24), (2, vI (M (b + 1 + 8) log.toNat)), (0, aR Γ b), (1, vI log)]) hx 2 (dq tX8_ownerOf 89 rfl) rfl (by decide) rfl rfl ?_
                      refine g_goto (n := 60) hx (dq tX8_ownerOf 90 rfl) (by decide) ?_
                      refine g_lv [0, 3, 4, 5, 6, 7] rfl ?_
                      exact ih_27 _ (by omega) (i_23 + 1) i_24 i_25 (by omega) (by omega) (by omega) (by omega) rfl
                    · refine g_iload (n := 164) hx 2 (dq tX8_ownerOf 85 rfl) rfl rfl ?_
                      refine g_istore_n (n := 165) (lv' := [(3, vI i_23), (7, .long w_66), (9, aR Γ o_52), (6, vI i_23), (4, .long i_25), (2, vI (M (b + 1 + 8) log.toNat)), (0, aR Γ b), (1, vI log)]) hx (dq tX8_ownerOf 86 rfl) (by decide) rfl rfl ?_
                      refine g_lload (n := 167) hx 1 (dq tX8_ownerOf 87 rfl) rfl rfl ?_
                      refine g_lstore (n := 169) (lv' := [(4, .long w_66), (3, vI i_23), (7, .long w_66), (9, aR Γ o_52), (6, vI i_23), (2, vI (M (b + 1 + 8) log.toNat)), (0, aR Γ b), (1, vI log)]) hx (dq tX8_ownerOf 88 rfl) (by decide) rfl rfl ?_
                      refine g_iinc (n := 172) (lv' := [(6, vI (i_23 + 1)), (4, .long w_66), (3, vI i_23), (7, .long w_66), (9, aR Γ o_52), (2, vI (M (b + 1 + 8) log.toNat)), (0, aR Γ b), (1, vI log)]) hx 4 (dq tX8_ownerOf 89 rfl) rfl (by decide) rfl rfl ?_
                      refine g_goto (n := 60) hx (dq tX8_ownerOf 90 rfl) (by decide) ?_
                      refine g_lv [0, 1, 2, 5, 6, 7] rfl ?_
                      exact ih_27 _ (by omega) (i_23 + 1) i_23 w_66 (by omega) (by omega) (by omega) (by omega) rfl
                · clear b_64
                  refine g_goto (n := 169) hx (dq tX8_ownerOf 74 rfl) (by decide) ?_
                  refine g_iinc (n := 172) (lv' := [(6, vI (i_23 + 1)), (9, aR Γ o_52), (7, vL z_36), (4, .long i_25), (3, vI i_24), (2, vI (M (b + 1 + 8) log.toNat)), (0, aR Γ b), (1, vI log)]) hx 2 (dq tX8_ownerOf 89 rfl) rfl (by decide) rfl rfl ?_
                  refine g_goto (n := 60) hx (dq tX8_ownerOf 90 rfl) (by decide) ?_
                  refine g_lv [0, 3, 4, 5, 6, 7] rfl ?_
                  exact ih_27 _ (by omega) (i_23 + 1) i_24 i_25 (by omega) (by omega) (by omega) (by omega) rfl
            · have h_71 : z_36 = 0 := by omega
              clear h_42
              refine g_goto (n := 169) hx (dq tX8_ownerOf 49 rfl) (by decide) ?_
              refine g_iinc (n := 172) (lv' := [(6, vI (i_23 + 1)), (7, vL z_36), (4, .long i_25), (3, vI i_24), (2, vI (M (b + 1 + 8) log.toNat)), (0, aR Γ b), (1, vI log)]) hx 1 (dq tX8_ownerOf 89 rfl) rfl (by decide) rfl rfl ?_
              refine g_goto (n := 60) hx (dq tX8_ownerOf 90 rfl) (by decide) ?_
              refine g_lv [0, 2, 3, 4, 5, 6] rfl ?_
              exact ih_27 _ (by omega) (i_23 + 1) i_24 i_25 (by omega) (by omega) (by omega) (by omega) rfl
      exact L_26 _ 0 (-1) (Int64.ofInt 0) (by omega) (by omega) (by omega) (by omega) rfl
    · refine g_aload_n (n := 27) hx 1 (dq tX8_ownerOf 14 rfl) rfl rfl ?_
      refine g_getR (n := 30) hx glX8_12 (sX8_1 hb) (dq tX8_ownerOf 15 rfl) rfl ?_
      refine g_iload_n (n := 31) hx 2 (dq tX8_ownerOf 16 rfl) rfl rfl ?_
      refine g_aload_n (n := 32) hx 1 (dq tX8_ownerOf 17 rfl) rfl rfl ?_
      refine g_getR (n := 35) hx glX8_12 (sX8_1 hb) (dq tX8_ownerOf 18 rfl) rfl ?_
      refine g_getI (n := 38) hx glX8_117 (sX6_3 (iX8_1 hb)) (dq tX8_ownerOf 19 rfl) rfl (fun h_72l h_72u => ?_)
      refine g_if_ne (n := 41) (t := 45) hx (dq tX8_ownerOf 20 rfl) (by decide) rfl (zrI h_72l h_72u (by decide) (by decide)) (fun c_73 => ?_) (fun c_73 => ?_)
      · refine g_iload_n (n := 46) hx 0 (dq tX8_ownerOf 23 rfl) rfl rfl ?_
        refine g_iconst (n := 47) hx (dq tX8_ownerOf 24 rfl) rfl ?_
        refine g_isub (n := 48) hx (dq tX8_ownerOf 25 rfl) rfl ?_
        refine g_callVi (n := 51) (As := [vI log, vI ((M (b + 1 + 8) log.toNat) - 1)]) (rest := []) hx (ctX6_notchAt Γ M (b + 1) (iX8_1 hb) log (by omega) (by omega) ((M (b + 1 + 8) log.toNat) - 1) (by omega) (by omega)) mlX8_120 (obX6 (iX8_1 hb)) (dq tX8_ownerOf 26 rfl) rfl (Nat.le_of_ble_eq_true rfl) (Nat.le_of_ble_eq_true rfl) (Nat.le_of_ble_eq_true rfl) rfl (fun z_74 M_75 h_76 p_77 => ?_)
        obtain ⟨rfl, h_79, h_80, h_81⟩ := p_77
        exact g_iret hx hr (dq tX8_ownerOf 27 rfl) h_76 ⟨rfl, (by omega), (by omega)⟩
      · refine g_iconst (n := 42) hx (dq tX8_ownerOf 21 rfl) rfl ?_
        refine g_goto (n := 48) hx (dq tX8_ownerOf 22 rfl) (by decide) ?_
        refine g_callVi (n := 51) (As := [vI log, vI 0]) (rest := []) hx (ctX6_notchAt Γ M (b + 1) (iX8_1 hb) log (by omega) (by omega) 0 (by decide) (by decide)) mlX8_120 (obX6 (iX8_1 hb)) (dq tX8_ownerOf 26 rfl) rfl (Nat.le_of_ble_eq_true rfl) (Nat.le_of_ble_eq_true rfl) (Nat.le_of_ble_eq_true rfl) rfl (fun z_82 M_83 h_84 p_85 => ?_)
        obtain ⟨rfl, h_87, h_88, h_89⟩ := p_85
        exact g_iret hx hr (dq tX8_ownerOf 27 rfl) h_84 ⟨rfl, (by omega), (by omega)⟩

abbrev qctX8_logsOf (M : zM) (b : Nat) (village : Int) (z : Int) (M' : zM) : Prop := M = M'
set_option maxHeartbeats 4000000 in
set_option maxRecDepth 100000 in
theorem ctX8_logsOf (Γ : Gam) (M : zM) (b : Nat) (hb : isX8 b) (village : Int) (hvillagel : (-2147483648) ≤ village) (hvillageu : village ≤ 2147483647) (gd0 : Gd M 37 (b + 1)) : CtI Γ yX8_logsOf cX8_logsOf 4 (some .int) 3 79 [aR Γ b, vI village] M (qctX8_logsOf M b village) := by
  refine met_i (by decide) (Nat.le_of_ble_eq_true rfl) (fun x hx hr => ?_)
  show G Γ x 4 (QI Γ x (qctX8_logsOf M b village)) M 0 [(0, aR Γ b), (1, vI village)] []
  refine g_iconst (n := 1) hx (dq tX8_logsOf 0 rfl) rfl ?_
  refine g_istore_n (n := 2) (lv' := [(2, vI 0), (0, aR Γ b), (1, vI village)]) hx (dq tX8_logsOf 1 rfl) (by decide) rfl rfl ?_
  refine g_iconst (n := 3) hx (dq tX8_logsOf 2 rfl) rfl ?_
  refine g_istore_n (n := 4) (lv' := [(3, vI 0), (2, vI 0), (0, aR Γ b), (1, vI village)]) hx (dq tX8_logsOf 3 rfl) (by decide) rfl rfl ?_
  have L_3 : ∀ (n_ : Nat) (i_1 : Int) (i_2 : Int), (0 ≤ i_1) → (i_1 ≤ 12) → ((-2147483648) ≤ i_2) → (i_2 ≤ 2147483647) → ((12 - i_1).toNat = n_) → G Γ x 4 (QI Γ x (qctX8_logsOf M b village)) M 4 [(3, vI i_1), (2, vI i_2), (0, aR Γ b), (1, vI village)] [] := by
    intro n_
    induction n_ using Nat.strongRecOn with
    | _ n_ ih_4 =>
      intro i_1 i_2 h_7 h_8 h_9 h_10 hm_6
      refine g_iload_n (n := 5) hx 0 (dq tX8_logsOf 4 rfl) rfl rfl ?_
      refine g_aload_n (n := 6) hx 2 (dq tX8_logsOf 5 rfl) rfl rfl ?_
      refine g_getR (n := 9) hx glX8_39 (sX8_0 hb) (dq tX8_logsOf 6 rfl) rfl ?_
      refine g_getI (n := 12) hx glX8_69 (sX2_3 (by decide)) (dq tX8_logsOf 7 rfl) rfl (fun h_11l h_11u => ?_)
      refine g_icmp_ge (n := 15) (t := 47) hx (dq tX8_logsOf 8 rfl) (by decide) rfl ⟨by omega, by omega⟩ (zrI h_11l h_11u (by decide) (by decide)) (fun c_12 => ?_) (fun c_12 => ?_)
      · refine g_iload_n (n := 48) hx 1 (dq tX8_logsOf 27 rfl) rfl rfl ?_
        exact g_iret hx hr (dq tX8_logsOf 28 rfl) ⟨by omega, by omega⟩ rfl
      · refine g_aload_n (n := 16) hx 2 (dq tX8_logsOf 9 rfl) rfl rfl ?_
        refine g_getR (n := 19) hx glX8_12 (sX8_1 hb) (dq tX8_logsOf 10 rfl) rfl ?_
        refine g_iload_n (n := 20) hx 0 (dq tX8_logsOf 11 rfl) rfl rfl ?_
        refine g_callVi (n := 23) (As := [vI i_1]) (rest := []) hx (ctX6_isGone Γ M (b + 1) (iX8_1 hb) i_1 (by omega) (by omega)) mlX8_146 (obX6 (iX8_1 hb)) (dq tX8_logsOf 12 rfl) rfl (Nat.le_of_ble_eq_true rfl) (Nat.le_of_ble_eq_true rfl) (Nat.le_of_ble_eq_true rfl) rfl (fun z_13 M_14 h_15 p_16 => ?_)
        obtain ⟨rfl, b_18⟩ := p_16
        refine g_if_ne (n := 26) (t := 41) hx (dq tX8_logsOf 13 rfl) (by decide) rfl h_15 (fun c_20 => ?_) (fun c_20 => ?_)
        · have b_18 := b_18.resolve_left c_20
          obtain ⟨-, h_19⟩ := b_18
          refine g_iinc (n := 44) (lv' := [(3, vI (i_1 + 1)), (2, vI i_2), (0, aR Γ b), (1, vI village)]) hx 0 (dq tX8_logsOf 25 rfl) rfl (by decide) rfl rfl ?_
          refine g_goto (n := 4) hx (dq tX8_logsOf 26 rfl) (by decide) ?_
          exact ih_4 _ (by omega) (i_1 + 1) i_2 (by omega) (by omega) (by omega) (by omega) rfl
        · clear b_18
          refine g_aload_n (n := 27) hx 2 (dq tX8_logsOf 14 rfl) rfl rfl ?_
          refine g_iload_n (n := 28) hx 0 (dq tX8_logsOf 15 rfl) rfl rfl ?_
          refine g_callVi (n := 31) (As := [vI i_1]) (rest := []) hx (ctX8_ownerOf Γ M b hb i_1 (by omega) (by omega) (by omega) gd0) mlX8_150 (obX8 hb) (dq tX8_logsOf 16 rfl) rfl (Nat.le_of_ble_eq_true rfl) (Nat.le_of_ble_eq_true rfl) (Nat.le_of_ble_eq_true rfl) rfl (fun z_21 M_22 h_23 p_24 => ?_)
          obtain ⟨rfl, h_26, h_27⟩ := p_24
          refine g_iload_n (n := 32) hx 3 (dq tX8_logsOf 17 rfl) rfl rfl ?_
          refine g_icmp_ne (n := 35) (t := 41) hx (dq tX8_logsOf 18 rfl) (by decide) rfl h_23 (zrI hvillagel hvillageu (by decide) (by decide)) (fun c_28 => ?_) (fun c_28 => ?_)
          · refine g_iinc (n := 44) (lv' := [(3, vI (i_1 + 1)), (2, vI i_2), (0, aR Γ b), (1, vI village)]) hx 0 (dq tX8_logsOf 25 rfl) rfl (by decide) rfl rfl ?_
            refine g_goto (n := 4) hx (dq tX8_logsOf 26 rfl) (by decide) ?_
            exact ih_4 _ (by omega) (i_1 + 1) i_2 (by omega) (by omega) (by omega) (by omega) rfl
          · refine g_iload_n (n := 36) hx 1 (dq tX8_logsOf 19 rfl) rfl rfl ?_
            refine g_iconst (n := 37) hx (dq tX8_logsOf 20 rfl) rfl ?_
            refine g_iload_n (n := 38) hx 0 (dq tX8_logsOf 21 rfl) rfl rfl ?_
            refine g_ishl1 (n := 39) hx (dq tX8_logsOf 22 rfl) rfl (by omega) (by omega) ?_
            refine g_nam (fun z_29 h_30 => ?_)
            have h_311 := pw1 (k := 11) (by omega) (by omega) h_30
            obtain ⟨h_312, h_313⟩ := h_311
            refine g_ior (n := 40) hx (dq tX8_logsOf 23 rfl) rfl (fun z_32 h_33 h_34 => ?_)
            clear h_34
            refine g_istore_n (n := 41) (lv' := [(2, vI z_32), (3, vI i_1), (0, aR Γ b), (1, vI village)]) hx (dq tX8_logsOf 24 rfl) (by decide) rfl rfl ?_
            refine g_iinc (n := 44) (lv' := [(3, vI (i_1 + 1)), (2, vI z_32), (0, aR Γ b), (1, vI village)]) hx 1 (dq tX8_logsOf 25 rfl) rfl (by decide) rfl rfl ?_
            refine g_goto (n := 4) hx (dq tX8_logsOf 26 rfl) (by decide) ?_
            exact ih_4 _ (by omega) (i_1 + 1) z_32 (by omega) (by omega) (by omega) (by omega) rfl
  exact L_3 _ 0 0 (by omega) (by omega) (by omega) (by omega) rfl

abbrev qctX8_ownersBetween (M : zM) (b : Nat) (from_ : Int) (to_ : Int) (z : Int) (M' : zM) : Prop := M = M'
set_option maxHeartbeats 4000000 in
set_option maxRecDepth 100000 in
theorem ctX8_ownersBetween (Γ : Gam) (M : zM) (b : Nat) (hb : isX8 b) (from_ : Int) (hfrom_l : (-2147483648) ≤ from_) (hfrom_u : from_ ≤ 2147483647) (to_ : Int) (hto_l : (-2147483648) ≤ to_) (hto_u : to_ ≤ 2147483647) (gd0 : Gd M 37 (b + 1)) : CtI Γ yX8_ownersBetween cX8_ownersBetween 6 (some .int) 3 79 [aR Γ b, vI from_, vI to_] M (qctX8_ownersBetween M b from_ to_) := by
  refine met_i (by decide) (Nat.le_of_ble_eq_true rfl) (fun x hx hr => ?_)
  show G Γ x 6 (QI Γ x (qctX8_ownersBetween M b from_ to_)) M 0 [(0, aR Γ b), (1, vI from_), (2, vI to_)] []
  refine g_iconst (n := 1) hx (dq tX8_ownersBetween 0 rfl) rfl ?_
  refine g_istore_n (n := 2) (lv' := [(3, vI 0), (0, aR Γ b), (1, vI from_), (2, vI to_)]) hx (dq tX8_ownersBetween 1 rfl) (by decide) rfl rfl ?_
  refine g_iconst (n := 3) hx (dq tX8_ownersBetween 2 rfl) rfl ?_
  refine g_istore (n := 5) (lv' := [(4, vI 0), (3, vI 0), (0, aR Γ b), (1, vI from_), (2, vI to_)]) hx (dq tX8_ownersBetween 3 rfl) (by decide) rfl rfl ?_
  have L_3 : ∀ (n_ : Nat) (i_1 : Int) (i_2 : Int), (0 ≤ i_1) → (i_1 ≤ 12) → (0 ≤ i_2) → (i_2 ≤ 63) → ((12 - i_1).toNat = n_) → G Γ x 6 (QI Γ x (qctX8_ownersBetween M b from_ to_)) M 5 [(4, vI i_1), (3, vI i_2), (0, aR Γ b), (1, vI from_), (2, vI to_)] [] := by
    intro n_
    induction n_ using Nat.strongRecOn with
    | _ n_ ih_4 =>
      intro i_1 i_2 h_7 h_8 h_9 h_10 hm_6
      refine g_iload (n := 7) hx 0 (dq tX8_ownersBetween 4 rfl) rfl rfl ?_
      refine g_aload_n (n := 8) hx 2 (dq tX8_ownersBetween 5 rfl) rfl rfl ?_
      refine g_getR (n := 11) hx glX8_39 (sX8_0 hb) (dq tX8_ownersBetween 6 rfl) rfl ?_
      refine g_getI (n := 14) hx glX8_69 (sX2_3 (by decide)) (dq tX8_ownersBetween 7 rfl) rfl (fun h_11l h_11u => ?_)
      refine g_icmp_ge (n := 17) (t := 72) hx (dq tX8_ownersBetween 8 rfl) (by decide) rfl ⟨by omega, by omega⟩ (zrI h_11l h_11u (by decide) (by decide)) (fun c_12 => ?_) (fun c_12 => ?_)
      · refine g_iload_n (n := 73) hx 1 (dq tX8_ownersBetween 38 rfl) rfl rfl ?_
        exact g_iret hx hr (dq tX8_ownersBetween 39 rfl) ⟨by omega, by omega⟩ rfl
      · refine g_aload_n (n := 18) hx 2 (dq tX8_ownersBetween 9 rfl) rfl rfl ?_
        refine g_getR (n := 21) hx glX8_12 (sX8_1 hb) (dq tX8_ownersBetween 10 rfl) rfl ?_
        refine g_getR (n := 24) hx glX8_57 (sX6_8 (iX8_1 hb)) (dq tX8_ownersBetween 11 rfl) rfl ?_
        refine g_iload (n := 26) hx 0 (dq tX8_ownersBetween 12 rfl) rfl rfl ?_
        refine g_iald (n := 27) (q := i_1.toNat) hx (aX6_8 (b := b + 1) (iX8_1 hb)) (dq tX8_ownersBetween 13 rfl) rfl (by omega) (by omega) (by omega) rfl (fun h_13l h_13u => ?_)
        refine g_iload_n (n := 28) hx 3 (dq tX8_ownersBetween 14 rfl) rfl rfl ?_
        refine g_icmp_lt (n := 31) (t := 66) hx (dq tX8_ownersBetween 15 rfl) (by decide) rfl (zrI h_13l h_13u (by decide) (by decide)) (zrI hfrom_l hfrom_u (by decide) (by decide)) (fun c_14 => ?_) (fun c_14 => ?_)
        · refine g_iinc (n := 69) (lv' := [(4, vI (i_1 + 1)), (3, vI i_2), (0, aR Γ b), (1, vI from_), (2, vI to_)]) hx 0 (dq tX8_ownersBetween 36 rfl) rfl (by decide) rfl rfl ?_
          refine g_goto (n := 5) hx (dq tX8_ownersBetween 37 rfl) (by decide) ?_
          exact ih_4 _ (by omega) (i_1 + 1) i_2 (by omega) (by omega) (by omega) (by omega) rfl
        · refine g_aload_n (n := 32) hx 2 (dq tX8_ownersBetween 16 rfl) rfl rfl ?_
          refine g_getR (n := 35) hx glX8_12 (sX8_1 hb) (dq tX8_ownersBetween 17 rfl) rfl ?_
          refine g_getR (n := 38) hx glX8_57 (sX6_8 (iX8_1 hb)) (dq tX8_ownersBetween 18 rfl) rfl ?_
          refine g_iload (n := 40) hx 0 (dq tX8_ownersBetween 19 rfl) rfl rfl ?_
          refine g_iald (n := 41) (q := i_1.toNat) hx (aX6_8 (b := b + 1) (iX8_1 hb)) (dq tX8_ownersBetween 20 rfl) rfl (by omega) (by omega) (by omega) rfl (fun h_15l h_15u => ?_)
          refine g_iload_n (n := 42) hx 4 (dq tX8_ownersBetween 21 rfl) rfl rfl ?_
          refine g_icmp_ge (n := 45) (t := 66) hx (dq tX8_ownersBetween 22 rfl) (by decide) rfl (zrI h_15l h_15u (by decide) (by decide)) (zrI hto_l hto_u (by decide) (by decide)) (fun c_16 => ?_) (fun c_16 => ?_)
          · refine g_iinc (n := 69) (lv' := [(4, vI (i_1 + 1)), (3, vI i_2), (0, aR Γ b), (1, vI from_), (2, vI to_)]) hx 0 (dq tX8_ownersBetween 36 rfl) rfl (by decide) rfl rfl ?_
            refine g_goto (n := 5) hx (dq tX8_ownersBetween 37 rfl) (by decide) ?_
            exact ih_4 _ (by omega) (i_1 + 1) i_2 (by omega) (by omega) (by omega) (by omega) rfl
          · refine g_aload_n (n := 46) hx 2 (dq tX8_ownersBetween 23 rfl) rfl rfl ?_
            refine g_iload (n := 48) hx 0 (dq tX8_ownersBetween 24 rfl) rfl rfl ?_
            refine g_callVi (n := 51) (As := [vI i_1]) (rest := []) hx (ctX8_ownerOf Γ M b hb i_1 (by omega) (by omega) (by omega) gd0) mlX8_150 (obX8 hb) (dq tX8_ownersBetween 25 rfl) rfl (Nat.le_of_ble_eq_true rfl) (Nat.le_of_ble_eq_true rfl) (Nat.le_of_ble_eq_true rfl) rfl (fun z_17 M_18 h_19 p_20 => ?_)
            obtain ⟨rfl, h_22, h_23⟩ := p_20
            refine g_istore (n := 53) (lv' := [(5, vI z_17), (4, vI i_1), (3, vI i_2), (0, aR Γ b), (1, vI from_), (2, vI to_)]) hx (dq tX8_ownersBetween 26 rfl) (by decide) rfl rfl ?_
            refine g_iload (n := 55) hx 0 (dq tX8_ownersBetween 27 rfl) rfl rfl ?_
            refine g_iconst (n := 56) hx (dq tX8_ownersBetween 28 rfl) rfl ?_
            refine g_icmp_eq (n := 59) (t := 66) hx (dq tX8_ownersBetween 29 rfl) (by decide) rfl h_19 ⟨by decide, by decide⟩ (fun c_24 => ?_) (fun c_24 => ?_)
            · refine g_iinc (n := 69) (lv' := [(4, vI (i_1 + 1)), (5, vI z_17), (3, vI i_2), (0, aR Γ b), (1, vI from_), (2, vI to_)]) hx 1 (dq tX8_ownersBetween 36 rfl) rfl (by decide) rfl rfl ?_
              refine g_goto (n := 5) hx (dq tX8_ownersBetween 37 rfl) (by decide) ?_
              refine g_lv [0, 2, 3, 4, 5] rfl ?_
              exact ih_4 _ (by omega) (i_1 + 1) i_2 (by omega) (by omega) (by omega) (by omega) rfl
            · refine g_iload_n (n := 60) hx 2 (dq tX8_ownersBetween 30 rfl) rfl rfl ?_
              refine g_iconst (n := 61) hx (dq tX8_ownersBetween 31 rfl) rfl ?_
              refine g_iload (n := 63) hx 0 (dq tX8_ownersBetween 32 rfl) rfl rfl ?_
              refine g_ishl1 (n := 64) hx (dq tX8_ownersBetween 33 rfl) rfl (by omega) (by omega) ?_
              refine g_nam (fun z_25 h_26 => ?_)
              have h_271 := pw1 (k := 5) (by omega) (by omega) h_26
              obtain ⟨h_272, h_273⟩ := h_271
              refine g_ior (n := 65) hx (dq tX8_ownersBetween 34 rfl) rfl (fun z_28 h_29 h_30 => ?_)
              obtain ⟨h_303, h_304⟩ := h_30 6 (by decide) (by omega) (by omega) (by omega) (by omega)
              clear h_30
              refine g_istore_n (n := 66) (lv' := [(3, vI z_28), (5, vI z_17), (4, vI i_1), (0, aR Γ b), (1, vI from_), (2, vI to_)]) hx (dq tX8_ownersBetween 35 rfl) (by decide) rfl rfl ?_
              refine g_iinc (n := 69) (lv' := [(4, vI (i_1 + 1)), (3, vI z_28), (5, vI z_17), (0, aR Γ b), (1, vI from_), (2, vI to_)]) hx 2 (dq tX8_ownersBetween 36 rfl) rfl (by decide) rfl rfl ?_
              refine g_goto (n := 5) hx (dq tX8_ownersBetween 37 rfl) (by decide) ?_
              refine g_lv [0, 1, 3, 4, 5] rfl ?_
              exact ih_4 _ (by omega) (i_1 + 1) z_28 (by omega) (by omega) (by omega) (by omega) rfl
  exact L_3 _ 0 0 (by omega) (by omega) (by omega) (by omega) rfl

abbrev qctX8_tearing (M : zM) (b : Nat) (bend : Int) (z : Int) (M' : zM) : Prop := M = M'
set_option maxHeartbeats 4000000 in
set_option maxRecDepth 100000 in
theorem ctX8_tearing (Γ : Gam) (M : zM) (b : Nat) (hb : isX8 b) (bend : Int) (hbendl : (-2147483648) ≤ bend) (hbendu : bend ≤ 2147483647) (gd0 : Gd M 37 (b + 1)) : CtI Γ yX8_tearing cX8_tearing 2 (some .int) 4 104 [aR Γ b, vI bend] M (qctX8_tearing M b bend) := by
  refine met_i (by decide) (Nat.le_of_ble_eq_true rfl) (fun x hx hr => ?_)
  show G Γ x 2 (QI Γ x (qctX8_tearing M b bend)) M 0 [(0, aR Γ b), (1, vI bend)] []
  refine g_aload_n (n := 1) hx 0 (dq tX8_tearing 0 rfl) rfl rfl ?_
  refine g_iconst (n := 2) hx (dq tX8_tearing 1 rfl) rfl ?_
  refine g_iload_n (n := 3) hx 1 (dq tX8_tearing 2 rfl) rfl rfl ?_
  refine g_callVi (n := 6) (As := [vI 0, vI bend]) (rest := []) hx (ctX8_ownersBetween Γ M b hb 0 (by decide) (by decide) bend (by omega) (by omega) gd0) mlX8_171 (obX8 hb) (dq tX8_tearing 3 rfl) rfl (Nat.le_of_ble_eq_true rfl) (Nat.le_of_ble_eq_true rfl) (Nat.le_of_ble_eq_true rfl) rfl (fun z_1 M_2 h_3 p_4 => ?_)
  obtain rfl := p_4
  exact g_iret hx hr (dq tX8_tearing 4 rfl) h_3 rfl

abbrev qctX8_keeping (M : zM) (b : Nat) (bend : Int) (z : Int) (M' : zM) : Prop := M = M'
set_option maxHeartbeats 4000000 in
set_option maxRecDepth 100000 in
theorem ctX8_keeping (Γ : Gam) (M : zM) (b : Nat) (hb : isX8 b) (bend : Int) (hbendl : (-2147483648) ≤ bend) (hbendu : bend ≤ 2147483647) (gd0 : Gd M 37 (b + 1)) : CtI Γ yX8_keeping cX8_keeping 2 (some .int) 4 104 [aR Γ b, vI bend] M (qctX8_keeping M b bend) := by
  refine met_i (by decide) (Nat.le_of_ble_eq_true rfl) (fun x hx hr => ?_)
  show G Γ x 2 (QI Γ x (qctX8_keeping M b bend)) M 0 [(0, aR Γ b), (1, vI bend)] []
  refine g_aload_n (n := 1) hx 0 (dq tX8_keeping 0 rfl) rfl rfl ?_
  refine g_iload_n (n := 2) hx 1 (dq tX8_keeping 1 rfl) rfl rfl ?_
  refine g_aload_n (n := 3) hx 0 (dq tX8_keeping 2 rfl) rfl rfl ?_
  refine g_getR (n := 6) hx glX8_39 (sX8_0 hb) (dq tX8_keeping 3 rfl) rfl ?_
  refine g_getI (n := 9) hx glX8_65 (sX2_0 (by decide)) (dq tX8_keeping 4 rfl) rfl (fun h_1l h_1u => ?_)
  refine g_callVi (n := 12) (As := [vI bend, vI (M 37 0)]) (rest := []) hx (ctX8_ownersBetween Γ M b hb bend (by omega) (by omega) (M 37 0) (by omega) (by omega) gd0) mlX8_171 (obX8 hb) (dq tX8_keeping 5 rfl) rfl (Nat.le_of_ble_eq_true rfl) (Nat.le_of_ble_eq_true rfl) (Nat.le_of_ble_eq_true rfl) rfl (fun z_2 M_3 h_4 p_5 => ?_)
  obtain rfl := p_5
  refine g_aload_n (n := 13) hx 0 (dq tX8_keeping 6 rfl) rfl rfl ?_
  refine g_iconst (n := 14) hx (dq tX8_keeping 7 rfl) rfl ?_
  refine g_iload_n (n := 15) hx 1 (dq tX8_keeping 8 rfl) rfl rfl ?_
  refine g_callVi (n := 18) (As := [vI 0, vI bend]) (rest := [vI z_2]) hx (ctX8_ownersBetween Γ M b hb 0 (by decide) (by decide) bend (by omega) (by omega) gd0) mlX8_171 (obX8 hb) (dq tX8_keeping 9 rfl) rfl (Nat.le_of_ble_eq_true rfl) (Nat.le_of_ble_eq_true rfl) (Nat.le_of_ble_eq_true rfl) rfl (fun z_7 M_8 h_9 p_10 => ?_)
  obtain rfl := p_10
  refine g_iconst (n := 19) hx (dq tX8_keeping 10 rfl) rfl ?_
  refine g_ixor (n := 20) hx (dq tX8_keeping 11 rfl) rfl (fun z_12 h_13 h_14 h_14s => ?_)
  clear h_14 h_14s
  refine g_iand (n := 21) hx (dq tX8_keeping 12 rfl) rfl (fun z_15 h_16 h_171 h_172 => ?_)
  clear h_171 h_172
  exact g_iret hx hr (dq tX8_keeping 13 rfl) h_16 rfl

abbrev qctX8_asks (M : zM) (b : Nat) (number : Int) (kind : Int) (log : Int) (village : Int) (z : Int) (M' : zM) : Prop := M = M' ∧ (z = 0 ∨ (z = 1))
set_option maxHeartbeats 4000000 in
set_option maxRecDepth 100000 in
theorem ctX8_asks (Γ : Gam) (M : zM) (b : Nat) (hb : isX8 b) (number : Int) (hnumberl : (-1) ≤ number) (hnumberu : number ≤ 5) (kind : Int) (hkindl : (-2147483648) ≤ kind) (hkindu : kind ≤ 2147483647) (log : Int) (hlogl : 0 ≤ log) (hlogu : log ≤ 11) (village : Int) (hvillagel : (-1) ≤ village) (hvillageu : village ≤ 5) (pre0 : log < M 37 3) (pre1 : kind = 2 → (0 ≤ village ∧ village < M 37 1)) (gd0 : Gd M 37 (b + 1)) : CtI Γ yX8_asks cX8_asks 8 (some .boolean) 3 79 [aR Γ b, vI number, vI kind, vI log, vI village] M (qctX8_asks M b number kind log village) := by
  refine met_i (by decide) (Nat.le_of_ble_eq_true rfl) (fun x hx hr => ?_)
  show G Γ x 8 (QI Γ x (qctX8_asks M b number kind log village)) M 0 [(0, aR Γ b), (1, vI number), (2, vI kind), (3, vI log), (4, vI village)] []
  refine g_iload_n (n := 1) hx 1 (dq tX8_asks 0 rfl) rfl rfl ?_
  refine g_if_lt (n := 4) (t := 10) hx (dq tX8_asks 1 rfl) (by decide) rfl (zrI hnumberl hnumberu (by decide) (by decide)) (fun c_1 => ?_) (fun c_1 => ?_)
  · refine g_iconst (n := 11) hx (dq tX8_asks 5 rfl) rfl ?_
    exact g_zret hx hr (dq tX8_asks 6 rfl) (by omega) ⟨rfl, (by omega)⟩
  · refine g_iload_n (n := 5) hx 1 (dq tX8_asks 2 rfl) rfl rfl ?_
    refine g_bipush (n := 7) hx (dq tX8_asks 3 rfl) rfl (by decide) ?_
    refine g_icmp_lt (n := 10) (t := 12) hx (dq tX8_asks 4 rfl) (by decide) rfl (zrI hnumberl hnumberu (by decide) (by decide)) ⟨by decide, by decide⟩ (fun c_2 => ?_) (fun c_2 => ?_)
    · refine g_aload_n (n := 13) hx 0 (dq tX8_asks 7 rfl) rfl rfl ?_
      refine g_getR (n := 16) hx glX8_43 (sX8_4 hb) (dq tX8_asks 8 rfl) rfl ?_
      refine g_iload_n (n := 17) hx 1 (dq tX8_asks 9 rfl) rfl rfl ?_
      refine g_aald (n := 18) (q := number.toNat) hx (aX8_4 (b := b) hb) (by decide) (dq tX8_asks 10 rfl) rfl (by omega) (by omega) (by omega) rfl ?_
      refine g_named (c := zrf 1 number.toNat) (fun o_3 eo_3 => ?_)
      have o_4 : isX4 o_3 := by rw [eo_3]; exact zrfX4 number.toNat (by omega)
      refine g_astore (n := 20) (lv' := [(5, aR Γ o_3), (0, aR Γ b), (1, vI number), (2, vI kind), (3, vI log), (4, vI village)]) hx (dq tX8_asks 11 rfl) (by decide) rfl rfl ?_
      refine g_aload (n := 22) hx 0 (dq tX8_asks 12 rfl) rfl rfl ?_
      refine g_iload_n (n := 23) hx 3 (dq tX8_asks 13 rfl) rfl rfl ?_
      refine g_callVi (n := 26) (As := [vI kind]) (rest := []) hx (ctX4_hasKind Γ M o_3 o_4 kind (by omega) (by omega)) mlX8_174 (obX4 o_4) (dq tX8_asks 14 rfl) rfl (Nat.le_of_ble_eq_true rfl) (Nat.le_of_ble_eq_true rfl) (Nat.le_of_ble_eq_true rfl) rfl (fun z_5 M_6 h_7 p_8 => ?_)
      obtain ⟨rfl, b_10⟩ := p_8
      refine g_if_ne (n := 29) (t := 31) hx (dq tX8_asks 15 rfl) (by decide) rfl h_7 (fun c_11 => ?_) (fun c_11 => ?_)
      · have b_10 := b_10.resolve_left c_11
        obtain ⟨-⟩ := b_10
        refine g_aload (n := 33) hx 0 (dq tX8_asks 18 rfl) rfl rfl ?_
        refine g_bipush (n := 35) hx (dq tX8_asks 19 rfl) rfl (by decide) ?_
        refine g_callVi (n := 38) (As := [vI 6]) (rest := []) hx (ctX4_hasWord Γ M o_3 o_4 6 (by decide) (by decide)) mlX8_177 (obX4 o_4) (dq tX8_asks 20 rfl) rfl (Nat.le_of_ble_eq_true rfl) (Nat.le_of_ble_eq_true rfl) (Nat.le_of_ble_eq_true rfl) rfl (fun z_12 M_13 h_14 p_15 => ?_)
        obtain ⟨rfl, b_17⟩ := p_15
        have J_20 : ∀ (j_19 : Int),  ((-1) ≤ j_19) → (j_19 ≤ 5) → G Γ x 8 (QI Γ x (qctX8_asks M b number kind log village)) M 50 [(5, aR Γ o_3), (0, aR Γ b), (1, vI number), (2, vI kind), (3, vI log), (4, vI village)] [vI j_19] := by
          intro j_19 h_21 h_22
          refine g_istore (n := 52) (lv' := [(6, vI j_19), (5, aR Γ o_3), (0, aR Γ b), (1, vI number), (2, vI kind), (3, vI log), (4, vI village)]) hx (dq tX8_asks 27 rfl) (by decide) rfl rfl ?_
          refine g_aload (n := 54) hx 1 (dq tX8_asks 28 rfl) rfl rfl ?_
          refine g_bipush (n := 56) hx (dq tX8_asks 29 rfl) rfl (by decide) ?_
          refine g_callVi (n := 59) (As := [vI 10]) (rest := []) hx (ctX4_hasWord Γ M o_3 o_4 10 (by decide) (by decide)) mlX8_177 (obX4 o_4) (dq tX8_asks 30 rfl) rfl (Nat.le_of_ble_eq_true rfl) (Nat.le_of_ble_eq_true rfl) (Nat.le_of_ble_eq_true rfl) rfl (fun z_23 M_24 h_25 p_26 => ?_)
          obtain ⟨rfl, b_28⟩ := p_26
          refine g_if_eq (n := 62) (t := 73) hx (dq tX8_asks 31 rfl) (by decide) rfl h_25 (fun c_29 => ?_) (fun c_29 => ?_)
          · clear b_28
            refine g_iconst (n := 74) hx (dq tX8_asks 38 rfl) rfl ?_
            refine g_istore (n := 76) (lv' := [(7, vI 0), (6, vI j_19), (5, aR Γ o_3), (0, aR Γ b), (1, vI number), (2, vI kind), (3, vI log), (4, vI village)]) hx (dq tX8_asks 39 rfl) (by decide) rfl rfl ?_
            refine g_aload_n (n := 77) hx 3 (dq tX8_asks 40 rfl) rfl rfl ?_
            refine g_iload_n (n := 78) hx 6 (dq tX8_asks 41 rfl) rfl rfl ?_
            refine g_iload (n := 80) hx 7 (dq tX8_asks 42 rfl) rfl rfl ?_
            refine g_iload (n := 82) hx 1 (dq tX8_asks 43 rfl) rfl rfl ?_
            refine g_iload (n := 84) hx 0 (dq tX8_asks 44 rfl) rfl rfl ?_
            refine g_callVv (n := 87) (As := [vI log, vI village, vI j_19, vI 0]) (rest := []) hx (ctX8_tellWords Γ M b hb log (by omega) (by omega) village (by omega) (by omega) j_19 (by omega) (by omega) 0 (by decide) (by decide) (by omega) gd0) mlX8_129 (obX8 hb) (dq tX8_asks 45 rfl) rfl (Nat.le_of_ble_eq_true rfl) (Nat.le_of_ble_eq_true rfl) (Nat.le_of_ble_eq_true rfl) rfl (fun M_31 p_33 => ?_)
            obtain rfl := p_33
            refine g_aload (n := 89) hx 2 (dq tX8_asks 46 rfl) rfl rfl ?_
            refine g_iload_n (n := 90) hx 5 (dq tX8_asks 47 rfl) rfl rfl ?_
            refine g_aload_n (n := 91) hx 3 (dq tX8_asks 48 rfl) rfl rfl ?_
            refine g_getR (n := 94) hx glX8_29 (sX8_5 hb) (dq tX8_asks 49 rfl) rfl ?_
            refine g_callVi (n := 97) (As := [vI kind, aR Γ (b + 25)]) (rest := []) hx (ctX4_finds Γ M o_3 o_4 kind (by omega) (by omega) (b + 25) (aX8_5 (b := b) hb)) mlX8_133 (obX4 o_4) (dq tX8_asks 50 rfl) rfl (Nat.le_of_ble_eq_true rfl) (Nat.le_of_ble_eq_true rfl) (Nat.le_of_ble_eq_true rfl) rfl (fun z_35 M_36 h_37 p_38 => ?_)
            obtain ⟨rfl, b_40⟩ := p_38
            exact g_zret hx hr (dq tX8_asks 51 rfl) (by omega) ⟨rfl, (by omega)⟩
          · have b_28 := b_28.resolve_left c_29
            obtain ⟨-⟩ := b_28
            refine g_aload_n (n := 63) hx 2 (dq tX8_asks 32 rfl) rfl rfl ?_
            refine g_iload_n (n := 64) hx 4 (dq tX8_asks 33 rfl) rfl rfl ?_
            refine g_iload_n (n := 65) hx 5 (dq tX8_asks 34 rfl) rfl rfl ?_
            refine g_iload (n := 67) hx 6 (dq tX8_asks 35 rfl) rfl rfl ?_
            refine g_callVi (n := 70) (As := [vI kind, vI log, vI village]) (rest := []) hx (ctX8_roomFor Γ M b hb kind (by omega) (by omega) log (by omega) (by omega) village (by omega) (by omega) (by omega) (by omega) gd0) mlX8_180 (obX8 hb) (dq tX8_asks 36 rfl) rfl (Nat.le_of_ble_eq_true rfl) (Nat.le_of_ble_eq_true rfl) (Nat.le_of_ble_eq_true rfl) rfl (fun z_41 M_42 h_43 p_44 => ?_)
            obtain rfl := p_44
            refine g_goto (n := 74) hx (dq tX8_asks 37 rfl) (by decide) ?_
            refine g_istore (n := 76) (lv' := [(7, vI z_41), (6, vI j_19), (5, aR Γ o_3), (0, aR Γ b), (1, vI number), (2, vI kind), (3, vI log), (4, vI village)]) hx (dq tX8_asks 39 rfl) (by decide) rfl rfl ?_
            refine g_aload_n (n := 77) hx 3 (dq tX8_asks 40 rfl) rfl rfl ?_
            refine g_iload_n (n := 78) hx 6 (dq tX8_asks 41 rfl) rfl rfl ?_
            refine g_iload (n := 80) hx 7 (dq tX8_asks 42 rfl) rfl rfl ?_
            refine g_iload (n := 82) hx 1 (dq tX8_asks 43 rfl) rfl rfl ?_
            refine g_iload (n := 84) hx 0 (dq tX8_asks 44 rfl) rfl rfl ?_
            refine g_callVv (n := 87) (As := [vI log, vI village, vI j_19, vI z_41]) (rest := []) hx (ctX8_tellWords Γ M b hb log (by omega) (by omega) village (by omega) (by omega) j_19 (by omega) (by omega) z_41 (by omega) (by omega) (by omega) gd0) mlX8_129 (obX8 hb) (dq tX8_asks 45 rfl) rfl (Nat.le_of_ble_eq_true rfl) (Nat.le_of_ble_eq_true rfl) (Nat.le_of_ble_eq_true rfl) rfl (fun M_47 p_49 => ?_)
            obtain rfl := p_49
            refine g_aload (n := 89) hx 2 (dq tX8_asks 46 rfl) rfl rfl ?_
            refine g_iload_n (n := 90) hx 5 (dq tX8_asks 47 rfl) rfl rfl ?_
            refine g_aload_n (n := 91) hx 3 (dq tX8_asks 48 rfl) rfl rfl ?_
            refine g_getR (n := 94) hx glX8_29 (sX8_5 hb) (dq tX8_asks 49 rfl) rfl ?_
            refine g_callVi (n := 97) (As := [vI kind, aR Γ (b + 25)]) (rest := []) hx (ctX4_finds Γ M o_3 o_4 kind (by omega) (by omega) (b + 25) (aX8_5 (b := b) hb)) mlX8_133 (obX4 o_4) (dq tX8_asks 50 rfl) rfl (Nat.le_of_ble_eq_true rfl) (Nat.le_of_ble_eq_true rfl) (Nat.le_of_ble_eq_true rfl) rfl (fun z_51 M_52 h_53 p_54 => ?_)
            obtain ⟨rfl, b_56⟩ := p_54
            exact g_zret hx hr (dq tX8_asks 51 rfl) (by omega) ⟨rfl, (by omega)⟩
        refine g_if_eq (n := 41) (t := 49) hx (dq tX8_asks 21 rfl) (by decide) rfl h_14 (fun c_18 => ?_) (fun c_18 => ?_)
        · clear b_17
          refine g_iconst (n := 50) hx (dq tX8_asks 26 rfl) rfl ?_
          exact J_20 (-1) (by omega) (by omega)
        · have b_17 := b_17.resolve_left c_18
          obtain ⟨-⟩ := b_17
          refine g_aload_n (n := 42) hx 1 (dq tX8_asks 22 rfl) rfl rfl ?_
          refine g_iload_n (n := 43) hx 4 (dq tX8_asks 23 rfl) rfl rfl ?_
          refine g_callVi (n := 46) (As := [vI log]) (rest := []) hx (ctX8_ownerOf Γ M b hb log (by omega) (by omega) (by omega) gd0) mlX8_150 (obX8 hb) (dq tX8_asks 24 rfl) rfl (Nat.le_of_ble_eq_true rfl) (Nat.le_of_ble_eq_true rfl) (Nat.le_of_ble_eq_true rfl) rfl (fun z_57 M_58 h_59 p_60 => ?_)
          obtain ⟨rfl, h_62, h_63⟩ := p_60
          refine g_goto (n := 50) hx (dq tX8_asks 25 rfl) (by decide) ?_
          exact J_20 z_57 (by omega) (by omega)
      · clear b_10
        refine g_iconst (n := 30) hx (dq tX8_asks 16 rfl) rfl ?_
        exact g_zret hx hr (dq tX8_asks 17 rfl) (by omega) ⟨rfl, (by omega)⟩
    · omega
