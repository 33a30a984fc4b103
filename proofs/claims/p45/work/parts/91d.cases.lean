set_option maxHeartbeats 4000000 in
theorem law_feed {Γ : Gam} {x : Cx} {b L : Nat} {f : Nat → Int32} {M : zM} {i : Int} (hx : OkL Γ x b L f) (h : Inv M) (r : RelC M) (h0 : 0 ≤ i) (hi : i + 6 ≤ L) (kk : ∀ M', Inv M' → RelC M' → GL Γ x b M' 1566 i []) : GL Γ x b M 224 i [] := by
  obtain ⟨⟨t, n, htx, hty⟩, hrc⟩ := r.1
  refine l_x hx (dq tL0 22 rfl) rfl ?_
  refine l_arg hx 1 (by decide) (by decide) h0 hi (dq tL0 23 rfl) (dq tL0 24 rfl) (dq tL0 25 rfl) (dq tL0 26 rfl) (dq tL0 27 rfl) rfl ?_
  refine l_arg hx 2 (by decide) (by decide) h0 hi (dq tL0 28 rfl) (dq tL0 29 rfl) (dq tL0 30 rfl) (dq tL0 31 rfl) (dq tL0 32 rfl) rfl ?_
  refine l_arg hx 3 (by decide) (by decide) h0 hi (dq tL0 33 rfl) (dq tL0 34 rfl) (dq tL0 35 rfl) (dq tL0 36 rfl) (dq tL0 37 rfl) rfl ?_
  refine l_arg hx 4 (by decide) (by decide) h0 hi (dq tL0 38 rfl) (dq tL0 39 rfl) (dq tL0 40 rfl) (dq tL0 41 rfl) (dq tL0 42 rfl) rfl ?_
  refine l_arg hx 5 (by decide) (by decide) h0 hi (dq tL0 43 rfl) (dq tL0 44 rfl) (dq tL0 45 rfl) (dq tL0 46 rfl) (dq tL0 47 rfl) rfl ?_
  refine l_call (As := [vI (fz f i 1), vI (fz f i 2), vI (fz f i 3), vI (fz f i 4), vI (fz f i 5)]) (rest := []) hx (ctX9_feed2 Γ M (fz f i 1) (rI _).1 (rI _).2 (fz f i 2) (rI _).1 (rI _).2 (fz f i 3) (rI _).1 (rI _).2 (fz f i 4) (rI _).1 (rI _).2 (fz f i 5) (rI _).1 (rI _).2 t n h.gd htx) mlL_13 (obX9 (by decide)) (dq tL0 48 rfl) rfl (Nat.le_of_ble_eq_true rfl) (Nat.le_of_ble_eq_true rfl) (Nat.le_of_ble_eq_true rfl) rfl (fun z1 M1 hzz1 p1 => ?_)
  have h1 : Inv M1 := h.cls (fun u v q => p1.1 u v (by omega)) p1.2.1
  have hty1 : Ty M1 t n := hty.frame (fun c j q => p1.1 c j (by omega))
  refine l_pop hx (dq tL0 49 rfl) rfl ?_
  refine l_m hx (dq tL0 50 rfl) rfl ?_
  refine l_arg hx 1 (by decide) (by decide) h0 hi (dq tL0 51 rfl) (dq tL0 52 rfl) (dq tL0 53 rfl) (dq tL0 54 rfl) (dq tL0 55 rfl) rfl ?_
  refine l_arg hx 2 (by decide) (by decide) h0 hi (dq tL0 56 rfl) (dq tL0 57 rfl) (dq tL0 58 rfl) (dq tL0 59 rfl) (dq tL0 60 rfl) rfl ?_
  refine l_arg hx 3 (by decide) (by decide) h0 hi (dq tL0 61 rfl) (dq tL0 62 rfl) (dq tL0 63 rfl) (dq tL0 64 rfl) (dq tL0 65 rfl) rfl ?_
  refine l_arg hx 4 (by decide) (by decide) h0 hi (dq tL0 66 rfl) (dq tL0 67 rfl) (dq tL0 68 rfl) (dq tL0 69 rfl) (dq tL0 70 rfl) rfl ?_
  refine l_arg hx 5 (by decide) (by decide) h0 hi (dq tL0 71 rfl) (dq tL0 72 rfl) (dq tL0 73 rfl) (dq tL0 74 rfl) (dq tL0 75 rfl) rfl ?_
  refine l_call (As := [vI (fz f i 1), vI (fz f i 2), vI (fz f i 3), vI (fz f i 4), vI (fz f i 5)]) (rest := []) hx (ctX10_feed3 Γ M1 (fz f i 1) (rI _).1 (rI _).2 (fz f i 2) (rI _).1 (rI _).2 (fz f i 3) (rI _).1 (rI _).2 (fz f i 4) (rI _).1 (rI _).2 (fz f i 5) (rI _).1 (rI _).2 t n hty1) mlL_17 (obX10 (by decide)) (dq tL0 76 rfl) rfl (Nat.le_of_ble_eq_true rfl) (Nat.le_of_ble_eq_true rfl) (Nat.le_of_ble_eq_true rfl) rfl (fun z2 M2 hzz2 p2 => ?_)
  have hz := relc_feed r htx hty1 p1 p2
  refine l_pop hx (dq tL0 77 rfl) rfl ?_
  refine l_goto (n := 1566) hx (dq tL0 78 rfl) (by decide) ?_
  exact kk M2 (h1.ref (fun u v q => p2.1 u v (by omega)) (h1.gm.frame (fun c j q => p2.1 c j (by omega))) (h1.rl.frame (fun c j q => p2.1 c j (by omega))) (h1.on.frame (fun c j q => p2.1 c j (by omega))) (h1.im.frame (fun c j q => p2.1 c j (by omega))) (by rw [p2.1 (229 + 1) 7 (by omega)]; exact h1.dy) (p2.1 (229 + 1) 16 (by omega)) (fun k _ => p2.1 (229 + 57) k (by omega)) (fun j _ => p2.1 (229 + 56) j (by omega))) hz.2

set_option maxHeartbeats 4000000 in
theorem law_end {Γ : Gam} {x : Cx} {b L : Nat} {f : Nat → Int32} {M : zM} {i : Int} (hx : OkL Γ x b L f) (h : Inv M) (r : RelC M) (h0 : 0 ≤ i) (hi : i + 6 ≤ L) (kk : ∀ M', Inv M' → RelC M' → GL Γ x b M' 1566 i []) : GL Γ x b M 287 i [] := by
  obtain ⟨⟨t, n, htx, hty⟩, hrc⟩ := r.1
  refine l_x hx (dq tL0 79 rfl) rfl ?_
  refine l_arg hx 1 (by decide) (by decide) h0 hi (dq tL0 80 rfl) (dq tL0 81 rfl) (dq tL0 82 rfl) (dq tL0 83 rfl) (dq tL0 84 rfl) rfl ?_
  refine l_call (As := [vI (fz f i 1)]) (rest := []) hx (ctX9_end2 Γ M (fz f i 1) (rI _).1 (rI _).2 h.gd) mlL_18 (obX9 (by decide)) (dq tL0 85 rfl) rfl (Nat.le_of_ble_eq_true rfl) (Nat.le_of_ble_eq_true rfl) (Nat.le_of_ble_eq_true rfl) rfl (fun z1 M1 hzz1 p1 => ?_)
  have h1 : Inv M1 := h.cls (fun u v q => p1.1 u v (by omega)) p1.2.1
  have hty1 : Ty M1 t n := hty.frame (fun c j q => p1.1 c j (by omega))
  refine l_pop hx (dq tL0 86 rfl) rfl ?_
  refine l_m hx (dq tL0 87 rfl) rfl ?_
  refine l_arg hx 1 (by decide) (by decide) h0 hi (dq tL0 88 rfl) (dq tL0 89 rfl) (dq tL0 90 rfl) (dq tL0 91 rfl) (dq tL0 92 rfl) rfl ?_
  refine l_call (As := [vI (fz f i 1)]) (rest := []) hx (ctX10_end3 Γ M1 (fz f i 1) (rI _).1 (rI _).2) mlL_22 (obX10 (by decide)) (dq tL0 93 rfl) rfl (Nat.le_of_ble_eq_true rfl) (Nat.le_of_ble_eq_true rfl) (Nat.le_of_ble_eq_true rfl) rfl (fun z2 M2 hzz2 p2 => ?_)
  have hz := relc_end r htx hty1 p1 p2
  refine l_pop hx (dq tL0 94 rfl) rfl ?_
  refine l_goto (n := 1566) hx (dq tL0 95 rfl) (by decide) ?_
  exact kk M2 (h1.ref (fun u v q => p2.1 u v (by omega)) (h1.gm.frame (fun c j q => p2.1 c j (by omega))) (h1.rl.frame (fun c j q => p2.1 c j (by omega))) (h1.on.frame (fun c j q => p2.1 c j (by omega))) (h1.im.frame (fun c j q => p2.1 c j (by omega))) (by rw [p2.1 (229 + 1) 7 (by omega)]; exact h1.dy) (p2.1 (229 + 1) 16 (by omega)) (fun k _ => p2.1 (229 + 57) k (by omega)) (fun j _ => p2.1 (229 + 56) j (by omega))) hz.2

set_option maxHeartbeats 4000000 in
theorem law_river {Γ : Gam} {x : Cx} {b L : Nat} {f : Nat → Int32} {M : zM} {i : Int} (hx : OkL Γ x b L f) (h : Inv M) (r : RelC M) (h0 : 0 ≤ i) (hi : i + 6 ≤ L) (kk : ∀ M', Inv M' → RelC M' → GL Γ x b M' 1566 i []) : GL Γ x b M 310 i [] := by
  obtain ⟨⟨t, n, htx, hty⟩, hrc⟩ := r.1
  refine l_x hx (dq tL0 96 rfl) rfl ?_
  refine l_call (As := []) (rest := []) hx (ctX9_river3 Γ M t n h.gd htx) mlL_23 (obX9 (by decide)) (dq tL0 97 rfl) rfl (Nat.le_of_ble_eq_true rfl) (Nat.le_of_ble_eq_true rfl) (Nat.le_of_ble_eq_true rfl) rfl (fun z1 M1 hzz1 p1 => ?_)
  have h1 : Inv M1 := h.cls (fun u v q => p1.1 u v (by omega)) p1.2.1
  have hty1 : Ty M1 t n := hty.frame (fun c j q => p1.1 c j (by omega))
  refine l_pop hx (dq tL0 98 rfl) rfl ?_
  refine l_m hx (dq tL0 99 rfl) rfl ?_
  refine l_call (As := []) (rest := []) hx (ctX10_river3 Γ M1 t n h1.dy hty1 h1.gm h1.on h1.rl) mlL_27 (obX10 (by decide)) (dq tL0 100 rfl) rfl (Nat.le_of_ble_eq_true rfl) (Nat.le_of_ble_eq_true rfl) (Nat.le_of_ble_eq_true rfl) rfl (fun z2 M2 hzz2 p2 => ?_)
  have hz := relc_river r p1 p2
  refine l_pop hx (dq tL0 101 rfl) rfl ?_
  refine l_goto (n := 1566) hx (dq tL0 102 rfl) (by decide) ?_
  exact kk M2 (h1.ref (fun u v q => p2.1 u v (by omega)) p2.2.1 p2.2.2.2.1 p2.2.2.1 (h1.im.frame (fun c j q => p2.1 c j (by omega))) p2.2.2.2.2.1 (p2.1 (229 + 1) 16 (by omega)) (fun k _ => p2.1 (229 + 57) k (by omega)) (fun j _ => p2.1 (229 + 56) j (by omega))) hz.2

set_option maxHeartbeats 4000000 in
theorem law_rule {Γ : Gam} {x : Cx} {b L : Nat} {f : Nat → Int32} {M : zM} {i : Int} (hx : OkL Γ x b L f) (h : Inv M) (r : RelC M) (h0 : 0 ≤ i) (hi : i + 6 ≤ L) (kk : ∀ M', Inv M' → RelC M' → GL Γ x b M' 1566 i []) : GL Γ x b M 323 i [] := by
  obtain ⟨⟨t, n, htx, hty⟩, hrc⟩ := r.1
  refine l_x hx (dq tL0 103 rfl) rfl ?_
  refine l_call (As := []) (rest := []) hx (ctX9_rule2 Γ M t n h.gd htx) mlL_28 (obX9 (by decide)) (dq tL0 104 rfl) rfl (Nat.le_of_ble_eq_true rfl) (Nat.le_of_ble_eq_true rfl) (Nat.le_of_ble_eq_true rfl) rfl (fun z1 M1 hzz1 p1 => ?_)
  have h1 : Inv M1 := h.cls (fun u v q => p1.1 u v (by omega)) p1.2.1
  have hty1 : Ty M1 t n := hty.frame (fun c j q => p1.1 c j (by omega))
  refine l_pop hx (dq tL0 105 rfl) rfl ?_
  refine l_m hx (dq tL0 106 rfl) rfl ?_
  refine l_call (As := []) (rest := []) hx (ctX10_rule3 Γ M1 t n hty1 h1.gm h1.rl h1.on) mlL_31 (obX10 (by decide)) (dq tL0 107 rfl) rfl (Nat.le_of_ble_eq_true rfl) (Nat.le_of_ble_eq_true rfl) (Nat.le_of_ble_eq_true rfl) rfl (fun z2 M2 hzz2 p2 => ?_)
  have hz := relc_rule r htx hty1 p1 p2
  refine l_pop hx (dq tL0 108 rfl) rfl ?_
  refine l_goto (n := 1566) hx (dq tL0 109 rfl) (by decide) ?_
  exact kk M2 (h1.ref (fun u v q => p2.1 u v (by omega)) p2.2.1 p2.2.2.1 p2.2.2.2.1 (h1.im.mono p2.2.2.2.2.1 (fun c j q => p2.1 c j (by omega))) (by rw [p2.1 (229 + 1) 7 (by omega)]; exact h1.dy) (p2.1 (229 + 1) 16 (by omega)) (fun k _ => p2.1 (229 + 57) k (by omega)) (fun j _ => p2.1 (229 + 56) j (by omega))) hz.2

set_option maxHeartbeats 4000000 in
theorem law_force {Γ : Gam} {x : Cx} {b L : Nat} {f : Nat → Int32} {M : zM} {i : Int} (hx : OkL Γ x b L f) (h : Inv M) (r : RelC M) (h0 : 0 ≤ i) (hi : i + 6 ≤ L) (kk : ∀ M', Inv M' → RelC M' → GL Γ x b M' 1566 i []) : GL Γ x b M 336 i [] := by
  refine l_x hx (dq tL0 110 rfl) rfl ?_
  refine l_arg hx 1 (by decide) (by decide) h0 hi (dq tL0 111 rfl) (dq tL0 112 rfl) (dq tL0 113 rfl) (dq tL0 114 rfl) (dq tL0 115 rfl) rfl ?_
  refine l_call (As := [vI (fz f i 1)]) (rest := []) hx (ctX9_force2 Γ M (fz f i 1) (rI _).1 (rI _).2 h.gd) mlL_32 (obX9 (by decide)) (dq tL0 116 rfl) rfl (Nat.le_of_ble_eq_true rfl) (Nat.le_of_ble_eq_true rfl) (Nat.le_of_ble_eq_true rfl) rfl (fun z1 M1 hzz1 p1 => ?_)
  have h1 : Inv M1 := h.cls (fun u v q => p1.1 u v (by omega)) p1.2.1
  refine l_pop hx (dq tL0 117 rfl) rfl ?_
  refine l_m hx (dq tL0 118 rfl) rfl ?_
  refine l_arg hx 1 (by decide) (by decide) h0 hi (dq tL0 119 rfl) (dq tL0 120 rfl) (dq tL0 121 rfl) (dq tL0 122 rfl) (dq tL0 123 rfl) rfl ?_
  refine l_call (As := [vI (fz f i 1)]) (rest := []) hx (ctX10_force3 Γ M1 (fz f i 1) (rI _).1 (rI _).2 h1.gm h1.rl h1.on) mlL_35 (obX10 (by decide)) (dq tL0 124 rfl) rfl (Nat.le_of_ble_eq_true rfl) (Nat.le_of_ble_eq_true rfl) (Nat.le_of_ble_eq_true rfl) rfl (fun z2 M2 hzz2 p2 => ?_)
  have hz := rel_force r p1 p2
  refine l_pop hx (dq tL0 125 rfl) rfl ?_
  refine l_goto (n := 1566) hx (dq tL0 126 rfl) (by decide) ?_
  exact kk M2 (h1.ref (fun u v q => p2.1 u v (by omega)) p2.2.1 p2.2.2.1 p2.2.2.2.1 (h1.im.frame (fun c j q => p2.1 c j (by omega))) (by rw [p2.1 (229 + 1) 7 (by omega)]; exact h1.dy) (p2.1 (229 + 1) 16 (by omega)) (fun k _ => p2.1 (229 + 57) k (by omega)) (fun j _ => p2.1 (229 + 56) j (by omega))) hz.2

set_option maxHeartbeats 4000000 in
theorem law_bind {Γ : Gam} {x : Cx} {b L : Nat} {f : Nat → Int32} {M : zM} {i : Int} (hx : OkL Γ x b L f) (h : Inv M) (r : RelC M) (h0 : 0 ≤ i) (hi : i + 6 ≤ L) (kk : ∀ M', Inv M' → RelC M' → GL Γ x b M' 1566 i []) : GL Γ x b M 359 i [] := by
  refine l_iv (fun hI => ?_)
  refine l_x hx (dq tL0 127 rfl) rfl ?_
  refine l_arg hx 1 (by decide) (by decide) h0 hi (dq tL0 128 rfl) (dq tL0 129 rfl) (dq tL0 130 rfl) (dq tL0 131 rfl) (dq tL0 132 rfl) rfl ?_
  refine l_arg hx 2 (by decide) (by decide) h0 hi (dq tL0 133 rfl) (dq tL0 134 rfl) (dq tL0 135 rfl) (dq tL0 136 rfl) (dq tL0 137 rfl) rfl ?_
  refine l_call (As := [vI (fz f i 1), vI (fz f i 2)]) (rest := []) hx (ctX9_bind2 Γ M (fz f i 1) (rI _).1 (rI _).2 (fz f i 2) (rI _).1 (rI _).2 h.gd) mlL_36 (obX9 (by decide)) (dq tL0 138 rfl) rfl (Nat.le_of_ble_eq_true rfl) (Nat.le_of_ble_eq_true rfl) (Nat.le_of_ble_eq_true rfl) rfl (fun z1 M1 hzz1 p1 => ?_)
  have h1 : Inv M1 := h.cls (fun u v q => p1.1 u v (by omega)) p1.2.1
  refine l_pop hx (dq tL0 139 rfl) rfl ?_
  refine l_m hx (dq tL0 140 rfl) rfl ?_
  refine l_arg hx 1 (by decide) (by decide) h0 hi (dq tL0 141 rfl) (dq tL0 142 rfl) (dq tL0 143 rfl) (dq tL0 144 rfl) (dq tL0 145 rfl) rfl ?_
  refine l_arg hx 2 (by decide) (by decide) h0 hi (dq tL0 146 rfl) (dq tL0 147 rfl) (dq tL0 148 rfl) (dq tL0 149 rfl) (dq tL1 0 rfl) rfl ?_
  refine l_call (As := [vI (fz f i 1), vI (fz f i 2)]) (rest := []) hx (ctX10_bind3 Γ M1 (fz f i 1) (rI _).1 (rI _).2 (fz f i 2) (rI _).1 (rI _).2 h1.gm h1.rl h1.on) mlL_40 (obX10 (by decide)) (dq tL1 1 rfl) rfl (Nat.le_of_ble_eq_true rfl) (Nat.le_of_ble_eq_true rfl) (Nat.le_of_ble_eq_true rfl) rfl (fun z2 M2 hzz2 p2 => ?_)
  have hz := rel_bind r (hI 37 1).2 p1 p2
  refine l_pop hx (dq tL1 2 rfl) rfl ?_
  refine l_goto (n := 1566) hx (dq tL1 3 rfl) (by decide) ?_
  exact kk M2 (h1.ref (fun u v q => p2.1 u v (by omega)) p2.2.1 p2.2.2.1 p2.2.2.2.1 (h1.im.frame (fun c j q => p2.1 c j (by omega))) (by rw [p2.1 (229 + 1) 7 (by omega)]; exact h1.dy) (p2.1 (229 + 1) 16 (by omega)) (fun k _ => p2.1 (229 + 57) k (by omega)) (fun j _ => p2.1 (229 + 56) j (by omega))) hz.2

set_option maxHeartbeats 4000000 in
theorem law_law {Γ : Gam} {x : Cx} {b L : Nat} {f : Nat → Int32} {M : zM} {i : Int} (hx : OkL Γ x b L f) (h : Inv M) (r : RelC M) (h0 : 0 ≤ i) (hi : i + 6 ≤ L) (kk : ∀ M', Inv M' → RelC M' → GL Γ x b M' 1566 i []) : GL Γ x b M 392 i [] := by
  refine l_x hx (dq tL1 4 rfl) rfl ?_
  refine l_arg hx 1 (by decide) (by decide) h0 hi (dq tL1 5 rfl) (dq tL1 6 rfl) (dq tL1 7 rfl) (dq tL1 8 rfl) (dq tL1 9 rfl) rfl ?_
  refine l_arg hx 2 (by decide) (by decide) h0 hi (dq tL1 10 rfl) (dq tL1 11 rfl) (dq tL1 12 rfl) (dq tL1 13 rfl) (dq tL1 14 rfl) rfl ?_
  refine l_call (As := [vI (fz f i 1), vI (fz f i 2)]) (rest := []) hx (ctX9_law2 Γ M (fz f i 1) (rI _).1 (rI _).2 (fz f i 2) (rI _).1 (rI _).2 h.gd) mlL_41 (obX9 (by decide)) (dq tL1 15 rfl) rfl (Nat.le_of_ble_eq_true rfl) (Nat.le_of_ble_eq_true rfl) (Nat.le_of_ble_eq_true rfl) rfl (fun z1 M1 hzz1 p1 => ?_)
  have h1 : Inv M1 := h.cls (fun u v q => p1.1 u v (by omega)) p1.2.1
  refine l_pop hx (dq tL1 16 rfl) rfl ?_
  refine l_m hx (dq tL1 17 rfl) rfl ?_
  refine l_arg hx 1 (by decide) (by decide) h0 hi (dq tL1 18 rfl) (dq tL1 19 rfl) (dq tL1 20 rfl) (dq tL1 21 rfl) (dq tL1 22 rfl) rfl ?_
  refine l_arg hx 2 (by decide) (by decide) h0 hi (dq tL1 23 rfl) (dq tL1 24 rfl) (dq tL1 25 rfl) (dq tL1 26 rfl) (dq tL1 27 rfl) rfl ?_
  refine l_call (As := [vI (fz f i 1), vI (fz f i 2)]) (rest := []) hx (ctX10_law3 Γ M1 (fz f i 1) (rI _).1 (rI _).2 (fz f i 2) (rI _).1 (rI _).2 h1.gm h1.rl h1.on) mlL_44 (obX10 (by decide)) (dq tL1 28 rfl) rfl (Nat.le_of_ble_eq_true rfl) (Nat.le_of_ble_eq_true rfl) (Nat.le_of_ble_eq_true rfl) rfl (fun z2 M2 hzz2 p2 => ?_)
  have hz := rel_law r p1 p2
  refine l_pop hx (dq tL1 29 rfl) rfl ?_
  refine l_goto (n := 1566) hx (dq tL1 30 rfl) (by decide) ?_
  exact kk M2 (h1.ref (fun u v q => p2.1 u v (by omega)) p2.2.1 p2.2.2.1 p2.2.2.2.1 (h1.im.frame (fun c j q => p2.1 c j (by omega))) (by rw [p2.1 (229 + 1) 7 (by omega)]; exact h1.dy) (p2.1 (229 + 1) 16 (by omega)) (fun k _ => p2.1 (229 + 57) k (by omega)) (fun j _ => p2.1 (229 + 56) j (by omega))) hz.2

set_option maxHeartbeats 4000000 in
theorem law_bend {Γ : Gam} {x : Cx} {b L : Nat} {f : Nat → Int32} {M : zM} {i : Int} (hx : OkL Γ x b L f) (h : Inv M) (r : RelC M) (h0 : 0 ≤ i) (hi : i + 6 ≤ L) (kk : ∀ M', Inv M' → RelC M' → GL Γ x b M' 1566 i []) : GL Γ x b M 425 i [] := by
  refine l_x hx (dq tL1 31 rfl) rfl ?_
  refine l_arg hx 1 (by decide) (by decide) h0 hi (dq tL1 32 rfl) (dq tL1 33 rfl) (dq tL1 34 rfl) (dq tL1 35 rfl) (dq tL1 36 rfl) rfl ?_
  refine l_arg hx 2 (by decide) (by decide) h0 hi (dq tL1 37 rfl) (dq tL1 38 rfl) (dq tL1 39 rfl) (dq tL1 40 rfl) (dq tL1 41 rfl) rfl ?_
  refine l_call (As := [vI (fz f i 1), vI (fz f i 2)]) (rest := []) hx (ctX9_bend Γ M (fz f i 1) (rI _).1 (rI _).2 (fz f i 2) (rI _).1 (rI _).2 h.gd) mlL_45 (obX9 (by decide)) (dq tL1 42 rfl) rfl (Nat.le_of_ble_eq_true rfl) (Nat.le_of_ble_eq_true rfl) (Nat.le_of_ble_eq_true rfl) rfl (fun z1 M1 hzz1 p1 => ?_)
  have e1 : M = M1 := p1
  subst e1
  refine l_pop hx (dq tL1 43 rfl) rfl ?_
  refine l_m hx (dq tL1 44 rfl) rfl ?_
  refine l_arg hx 1 (by decide) (by decide) h0 hi (dq tL1 45 rfl) (dq tL1 46 rfl) (dq tL1 47 rfl) (dq tL1 48 rfl) (dq tL1 49 rfl) rfl ?_
  refine l_arg hx 2 (by decide) (by decide) h0 hi (dq tL1 50 rfl) (dq tL1 51 rfl) (dq tL1 52 rfl) (dq tL1 53 rfl) (dq tL1 54 rfl) rfl ?_
  refine l_call (As := [vI (fz f i 1), vI (fz f i 2)]) (rest := []) hx (ctX10_bend Γ M (fz f i 1) (rI _).1 (rI _).2 (fz f i 2) (rI _).1 (rI _).2 h.gm) mlL_48 (obX10 (by decide)) (dq tL1 55 rfl) rfl (Nat.le_of_ble_eq_true rfl) (Nat.le_of_ble_eq_true rfl) (Nat.le_of_ble_eq_true rfl) rfl (fun z2 M2 hzz2 p2 => ?_)
  refine l_pop hx (dq tL1 56 rfl) rfl ?_
  refine l_goto (n := 1566) hx (dq tL1 57 rfl) (by decide) ?_
  have e2 : M = M2 := p2
  subst e2
  exact kk _ h r

set_option maxHeartbeats 4000000 in
theorem law_village {Γ : Gam} {x : Cx} {b L : Nat} {f : Nat → Int32} {M : zM} {i : Int} (hx : OkL Γ x b L f) (h : Inv M) (r : RelC M) (h0 : 0 ≤ i) (hi : i + 6 ≤ L) (kk : ∀ M', Inv M' → RelC M' → GL Γ x b M' 1566 i []) : GL Γ x b M 458 i [] := by
  refine l_x hx (dq tL1 58 rfl) rfl ?_
  refine l_arg hx 1 (by decide) (by decide) h0 hi (dq tL1 59 rfl) (dq tL1 60 rfl) (dq tL1 61 rfl) (dq tL1 62 rfl) (dq tL1 63 rfl) rfl ?_
  refine l_arg hx 2 (by decide) (by decide) h0 hi (dq tL1 64 rfl) (dq tL1 65 rfl) (dq tL1 66 rfl) (dq tL1 67 rfl) (dq tL1 68 rfl) rfl ?_
  refine l_call (As := [vI (fz f i 1), vI (fz f i 2)]) (rest := []) hx (ctX9_village Γ M (fz f i 1) (rI _).1 (rI _).2 (fz f i 2) (rI _).1 (rI _).2 h.gd) mlL_49 (obX9 (by decide)) (dq tL1 69 rfl) rfl (Nat.le_of_ble_eq_true rfl) (Nat.le_of_ble_eq_true rfl) (Nat.le_of_ble_eq_true rfl) rfl (fun z1 M1 hzz1 p1 => ?_)
  have e1 : M = M1 := p1
  subst e1
  refine l_pop hx (dq tL1 70 rfl) rfl ?_
  refine l_m hx (dq tL1 71 rfl) rfl ?_
  refine l_arg hx 1 (by decide) (by decide) h0 hi (dq tL1 72 rfl) (dq tL1 73 rfl) (dq tL1 74 rfl) (dq tL1 75 rfl) (dq tL1 76 rfl) rfl ?_
  refine l_arg hx 2 (by decide) (by decide) h0 hi (dq tL1 77 rfl) (dq tL1 78 rfl) (dq tL1 79 rfl) (dq tL1 80 rfl) (dq tL1 81 rfl) rfl ?_
  refine l_call (As := [vI (fz f i 1), vI (fz f i 2)]) (rest := []) hx (ctX10_village Γ M (fz f i 1) (rI _).1 (rI _).2 (fz f i 2) (rI _).1 (rI _).2 h.gm h.rl) mlL_52 (obX10 (by decide)) (dq tL1 82 rfl) rfl (Nat.le_of_ble_eq_true rfl) (Nat.le_of_ble_eq_true rfl) (Nat.le_of_ble_eq_true rfl) rfl (fun z2 M2 hzz2 p2 => ?_)
  refine l_pop hx (dq tL1 83 rfl) rfl ?_
  refine l_goto (n := 1566) hx (dq tL1 84 rfl) (by decide) ?_
  have e2 : M = M2 := p2
  subst e2
  exact kk _ h r

set_option maxHeartbeats 4000000 in
theorem law_log {Γ : Gam} {x : Cx} {b L : Nat} {f : Nat → Int32} {M : zM} {i : Int} (hx : OkL Γ x b L f) (h : Inv M) (r : RelC M) (h0 : 0 ≤ i) (hi : i + 6 ≤ L) (kk : ∀ M', Inv M' → RelC M' → GL Γ x b M' 1566 i []) : GL Γ x b M 491 i [] := by
  refine l_x hx (dq tL1 85 rfl) rfl ?_
  refine l_arg hx 1 (by decide) (by decide) h0 hi (dq tL1 86 rfl) (dq tL1 87 rfl) (dq tL1 88 rfl) (dq tL1 89 rfl) (dq tL1 90 rfl) rfl ?_
  refine l_arg hx 2 (by decide) (by decide) h0 hi (dq tL1 91 rfl) (dq tL1 92 rfl) (dq tL1 93 rfl) (dq tL1 94 rfl) (dq tL1 95 rfl) rfl ?_
  refine l_call (As := [vI (fz f i 1), vI (fz f i 2)]) (rest := []) hx (ctX9_log Γ M (fz f i 1) (rI _).1 (rI _).2 (fz f i 2) (rI _).1 (rI _).2 h.gd) mlL_53 (obX9 (by decide)) (dq tL1 96 rfl) rfl (Nat.le_of_ble_eq_true rfl) (Nat.le_of_ble_eq_true rfl) (Nat.le_of_ble_eq_true rfl) rfl (fun z1 M1 hzz1 p1 => ?_)
  have e1 : M = M1 := p1
  subst e1
  refine l_pop hx (dq tL1 97 rfl) rfl ?_
  refine l_m hx (dq tL1 98 rfl) rfl ?_
  refine l_arg hx 1 (by decide) (by decide) h0 hi (dq tL1 99 rfl) (dq tL1 100 rfl) (dq tL1 101 rfl) (dq tL1 102 rfl) (dq tL1 103 rfl) rfl ?_
  refine l_arg hx 2 (by decide) (by decide) h0 hi (dq tL1 104 rfl) (dq tL1 105 rfl) (dq tL1 106 rfl) (dq tL1 107 rfl) (dq tL1 108 rfl) rfl ?_
  refine l_call (As := [vI (fz f i 1), vI (fz f i 2)]) (rest := []) hx (ctX10_log Γ M (fz f i 1) (rI _).1 (rI _).2 (fz f i 2) (rI _).1 (rI _).2 h.gm h.rl h.on) mlL_56 (obX10 (by decide)) (dq tL1 109 rfl) rfl (Nat.le_of_ble_eq_true rfl) (Nat.le_of_ble_eq_true rfl) (Nat.le_of_ble_eq_true rfl) rfl (fun z2 M2 hzz2 p2 => ?_)
  refine l_pop hx (dq tL1 110 rfl) rfl ?_
  refine l_goto (n := 1566) hx (dq tL1 111 rfl) (by decide) ?_
  have e2 : M = M2 := p2
  subst e2
  exact kk _ h r

set_option maxHeartbeats 4000000 in
theorem law_notch {Γ : Gam} {x : Cx} {b L : Nat} {f : Nat → Int32} {M : zM} {i : Int} (hx : OkL Γ x b L f) (h : Inv M) (r : RelC M) (h0 : 0 ≤ i) (hi : i + 6 ≤ L) (kk : ∀ M', Inv M' → RelC M' → GL Γ x b M' 1566 i []) : GL Γ x b M 524 i [] := by
  refine l_x hx (dq tL1 112 rfl) rfl ?_
  refine l_arg hx 1 (by decide) (by decide) h0 hi (dq tL1 113 rfl) (dq tL1 114 rfl) (dq tL1 115 rfl) (dq tL1 116 rfl) (dq tL1 117 rfl) rfl ?_
  refine l_arg hx 2 (by decide) (by decide) h0 hi (dq tL1 118 rfl) (dq tL1 119 rfl) (dq tL1 120 rfl) (dq tL1 121 rfl) (dq tL1 122 rfl) rfl ?_
  refine l_call (As := [vI (fz f i 1), vI (fz f i 2)]) (rest := []) hx (ctX9_notch Γ M (fz f i 1) (rI _).1 (rI _).2 (fz f i 2) (rI _).1 (rI _).2 h.gd) mlL_57 (obX9 (by decide)) (dq tL1 123 rfl) rfl (Nat.le_of_ble_eq_true rfl) (Nat.le_of_ble_eq_true rfl) (Nat.le_of_ble_eq_true rfl) rfl (fun z1 M1 hzz1 p1 => ?_)
  have e1 : M = M1 := p1
  subst e1
  refine l_pop hx (dq tL1 124 rfl) rfl ?_
  refine l_m hx (dq tL1 125 rfl) rfl ?_
  refine l_arg hx 1 (by decide) (by decide) h0 hi (dq tL1 126 rfl) (dq tL1 127 rfl) (dq tL1 128 rfl) (dq tL1 129 rfl) (dq tL1 130 rfl) rfl ?_
  refine l_arg hx 2 (by decide) (by decide) h0 hi (dq tL1 131 rfl) (dq tL1 132 rfl) (dq tL1 133 rfl) (dq tL1 134 rfl) (dq tL1 135 rfl) rfl ?_
  refine l_call (As := [vI (fz f i 1), vI (fz f i 2)]) (rest := []) hx (ctX10_notch Γ M (fz f i 1) (rI _).1 (rI _).2 (fz f i 2) (rI _).1 (rI _).2 h.gm) mlL_60 (obX10 (by decide)) (dq tL1 136 rfl) rfl (Nat.le_of_ble_eq_true rfl) (Nat.le_of_ble_eq_true rfl) (Nat.le_of_ble_eq_true rfl) rfl (fun z2 M2 hzz2 p2 => ?_)
  refine l_pop hx (dq tL1 137 rfl) rfl ?_
  refine l_goto (n := 1566) hx (dq tL1 138 rfl) (by decide) ?_
  have e2 : M = M2 := p2
  subst e2
  exact kk _ h r

set_option maxHeartbeats 4000000 in
theorem law_cut {Γ : Gam} {x : Cx} {b L : Nat} {f : Nat → Int32} {M : zM} {i : Int} (hx : OkL Γ x b L f) (h : Inv M) (r : RelC M) (h0 : 0 ≤ i) (hi : i + 6 ≤ L) (kk : ∀ M', Inv M' → RelC M' → GL Γ x b M' 1566 i []) : GL Γ x b M 557 i [] := by
  refine l_x hx (dq tL1 139 rfl) rfl ?_
  refine l_arg hx 1 (by decide) (by decide) h0 hi (dq tL1 140 rfl) (dq tL1 141 rfl) (dq tL1 142 rfl) (dq tL1 143 rfl) (dq tL1 144 rfl) rfl ?_
  refine l_arg hx 2 (by decide) (by decide) h0 hi (dq tL1 145 rfl) (dq tL1 146 rfl) (dq tL1 147 rfl) (dq tL1 148 rfl) (dq tL1 149 rfl) rfl ?_
  refine l_call (As := [vI (fz f i 1), vI (fz f i 2)]) (rest := []) hx (ctX9_cut Γ M (fz f i 1) (rI _).1 (rI _).2 (fz f i 2) (rI _).1 (rI _).2 h.gd) mlL_61 (obX9 (by decide)) (dq tL2 0 rfl) rfl (Nat.le_of_ble_eq_true rfl) (Nat.le_of_ble_eq_true rfl) (Nat.le_of_ble_eq_true rfl) rfl (fun z1 M1 hzz1 p1 => ?_)
  have h1 : Inv M1 := h.cls (fun u v q => p1.1 u v (by omega)) p1.2
  have r1 : RelC M1 := r.cls (fun u v q => p1.1 u v (by omega))
  refine l_pop hx (dq tL2 1 rfl) rfl ?_
  refine l_m hx (dq tL2 2 rfl) rfl ?_
  refine l_arg hx 1 (by decide) (by decide) h0 hi (dq tL2 3 rfl) (dq tL2 4 rfl) (dq tL2 5 rfl) (dq tL2 6 rfl) (dq tL2 7 rfl) rfl ?_
  refine l_arg hx 2 (by decide) (by decide) h0 hi (dq tL2 8 rfl) (dq tL2 9 rfl) (dq tL2 10 rfl) (dq tL2 11 rfl) (dq tL2 12 rfl) rfl ?_
  refine l_call (As := [vI (fz f i 1), vI (fz f i 2)]) (rest := []) hx (ctX10_cut Γ M1 (fz f i 1) (rI _).1 (rI _).2 (fz f i 2) (rI _).1 (rI _).2 h1.gm) mlL_64 (obX10 (by decide)) (dq tL2 13 rfl) rfl (Nat.le_of_ble_eq_true rfl) (Nat.le_of_ble_eq_true rfl) (Nat.le_of_ble_eq_true rfl) rfl (fun z2 M2 hzz2 p2 => ?_)
  refine l_pop hx (dq tL2 14 rfl) rfl ?_
  refine l_goto (n := 1566) hx (dq tL2 15 rfl) (by decide) ?_
  exact kk M2 (h1.ref (fun u v q => p2.1 u v (by omega)) p2.2 (h1.rl.frame (fun c j q => p2.1 c j (by omega))) (h1.on.frame (fun c j q => p2.1 c j (by omega))) (h1.im.frame (fun c j q => p2.1 c j (by omega))) (by rw [p2.1 (229 + 1) 7 (by omega)]; exact h1.dy) (p2.1 (229 + 1) 16 (by omega)) (fun k _ => p2.1 (229 + 57) k (by omega)) (fun j _ => p2.1 (229 + 56) j (by omega))) (r1.ref (fun u v q => p2.1 u v (by omega)) (SmB.of (fun u v q => p2.1 u v (by omega))) (fun j _ => p2.1 (229 + 56) j (by omega)) (fun k _ => p2.1 (229 + 57) k (by omega)))

set_option maxHeartbeats 4000000 in
theorem law_cutOver {Γ : Gam} {x : Cx} {b L : Nat} {f : Nat → Int32} {M : zM} {i : Int} (hx : OkL Γ x b L f) (h : Inv M) (r : RelC M) (h0 : 0 ≤ i) (hi : i + 6 ≤ L) (kk : ∀ M', Inv M' → RelC M' → GL Γ x b M' 1566 i []) : GL Γ x b M 590 i [] := by
  refine l_x hx (dq tL2 16 rfl) rfl ?_
  refine l_arg hx 1 (by decide) (by decide) h0 hi (dq tL2 17 rfl) (dq tL2 18 rfl) (dq tL2 19 rfl) (dq tL2 20 rfl) (dq tL2 21 rfl) rfl ?_
  refine l_arg hx 2 (by decide) (by decide) h0 hi (dq tL2 22 rfl) (dq tL2 23 rfl) (dq tL2 24 rfl) (dq tL2 25 rfl) (dq tL2 26 rfl) rfl ?_
  refine l_arg hx 3 (by decide) (by decide) h0 hi (dq tL2 27 rfl) (dq tL2 28 rfl) (dq tL2 29 rfl) (dq tL2 30 rfl) (dq tL2 31 rfl) rfl ?_
  refine l_call (As := [vI (fz f i 1), vI (fz f i 2), vI (fz f i 3)]) (rest := []) hx (ctX9_cutOver Γ M (fz f i 1) (rI _).1 (rI _).2 (fz f i 2) (rI _).1 (rI _).2 (fz f i 3) (rI _).1 (rI _).2 h.gd) mlL_65 (obX9 (by decide)) (dq tL2 32 rfl) rfl (Nat.le_of_ble_eq_true rfl) (Nat.le_of_ble_eq_true rfl) (Nat.le_of_ble_eq_true rfl) rfl (fun z1 M1 hzz1 p1 => ?_)
  have h1 : Inv M1 := h.cls (fun u v q => p1.1 u v (by omega)) p1.2
  have r1 : RelC M1 := r.cls (fun u v q => p1.1 u v (by omega))
  refine l_pop hx (dq tL2 33 rfl) rfl ?_
  refine l_m hx (dq tL2 34 rfl) rfl ?_
  refine l_arg hx 1 (by decide) (by decide) h0 hi (dq tL2 35 rfl) (dq tL2 36 rfl) (dq tL2 37 rfl) (dq tL2 38 rfl) (dq tL2 39 rfl) rfl ?_
  refine l_arg hx 2 (by decide) (by decide) h0 hi (dq tL2 40 rfl) (dq tL2 41 rfl) (dq tL2 42 rfl) (dq tL2 43 rfl) (dq tL2 44 rfl) rfl ?_
  refine l_arg hx 3 (by decide) (by decide) h0 hi (dq tL2 45 rfl) (dq tL2 46 rfl) (dq tL2 47 rfl) (dq tL2 48 rfl) (dq tL2 49 rfl) rfl ?_
  refine l_call (As := [vI (fz f i 1), vI (fz f i 2), vI (fz f i 3)]) (rest := []) hx (ctX10_cutOver Γ M1 (fz f i 1) (rI _).1 (rI _).2 (fz f i 2) (rI _).1 (rI _).2 (fz f i 3) (rI _).1 (rI _).2 h1.gm) mlL_69 (obX10 (by decide)) (dq tL2 50 rfl) rfl (Nat.le_of_ble_eq_true rfl) (Nat.le_of_ble_eq_true rfl) (Nat.le_of_ble_eq_true rfl) rfl (fun z2 M2 hzz2 p2 => ?_)
  refine l_pop hx (dq tL2 51 rfl) rfl ?_
  refine l_goto (n := 1566) hx (dq tL2 52 rfl) (by decide) ?_
  exact kk M2 (h1.ref (fun u v q => p2.1 u v (by omega)) p2.2 (h1.rl.frame (fun c j q => p2.1 c j (by omega))) (h1.on.frame (fun c j q => p2.1 c j (by omega))) (h1.im.frame (fun c j q => p2.1 c j (by omega))) (by rw [p2.1 (229 + 1) 7 (by omega)]; exact h1.dy) (p2.1 (229 + 1) 16 (by omega)) (fun k _ => p2.1 (229 + 57) k (by omega)) (fun j _ => p2.1 (229 + 56) j (by omega))) (r1.ref (fun u v q => p2.1 u v (by omega)) (SmB.of (fun u v q => p2.1 u v (by omega))) (fun j _ => p2.1 (229 + 56) j (by omega)) (fun k _ => p2.1 (229 + 57) k (by omega)))

set_option maxHeartbeats 4000000 in
theorem law_undo {Γ : Gam} {x : Cx} {b L : Nat} {f : Nat → Int32} {M : zM} {i : Int} (hx : OkL Γ x b L f) (h : Inv M) (r : RelC M) (h0 : 0 ≤ i) (hi : i + 6 ≤ L) (kk : ∀ M', Inv M' → RelC M' → GL Γ x b M' 1566 i []) : GL Γ x b M 633 i [] := by
  refine l_x hx (dq tL2 53 rfl) rfl ?_
  refine l_call (As := []) (rest := []) hx (ctX9_undo Γ M h.gd) mlL_70 (obX9 (by decide)) (dq tL2 54 rfl) rfl (Nat.le_of_ble_eq_true rfl) (Nat.le_of_ble_eq_true rfl) (Nat.le_of_ble_eq_true rfl) rfl (fun z1 M1 hzz1 p1 => ?_)
  have h1 : Inv M1 := h.cls (fun u v q => p1.1 u v (by omega)) p1.2
  have r1 : RelC M1 := r.cls (fun u v q => p1.1 u v (by omega))
  refine l_pop hx (dq tL2 55 rfl) rfl ?_
  refine l_m hx (dq tL2 56 rfl) rfl ?_
  refine l_call (As := []) (rest := []) hx (ctX10_undo Γ M1 h1.gm) mlL_73 (obX10 (by decide)) (dq tL2 57 rfl) rfl (Nat.le_of_ble_eq_true rfl) (Nat.le_of_ble_eq_true rfl) (Nat.le_of_ble_eq_true rfl) rfl (fun z2 M2 hzz2 p2 => ?_)
  refine l_pop hx (dq tL2 58 rfl) rfl ?_
  refine l_goto (n := 1566) hx (dq tL2 59 rfl) (by decide) ?_
  exact kk M2 (h1.ref (fun u v q => p2.1 u v (by omega)) p2.2 (h1.rl.frame (fun c j q => p2.1 c j (by omega))) (h1.on.frame (fun c j q => p2.1 c j (by omega))) (h1.im.frame (fun c j q => p2.1 c j (by omega))) (by rw [p2.1 (229 + 1) 7 (by omega)]; exact h1.dy) (p2.1 (229 + 1) 16 (by omega)) (fun k _ => p2.1 (229 + 57) k (by omega)) (fun j _ => p2.1 (229 + 56) j (by omega))) (r1.ref (fun u v q => p2.1 u v (by omega)) (SmB.of (fun u v q => p2.1 u v (by omega))) (fun j _ => p2.1 (229 + 56) j (by omega)) (fun k _ => p2.1 (229 + 57) k (by omega)))

set_option maxHeartbeats 4000000 in
theorem law_launch {Γ : Gam} {x : Cx} {b L : Nat} {f : Nat → Int32} {M : zM} {i : Int} (hx : OkL Γ x b L f) (h : Inv M) (r : RelC M) (h0 : 0 ≤ i) (hi : i + 6 ≤ L) (kk : ∀ M', Inv M' → RelC M' → GL Γ x b M' 1566 i []) : GL Γ x b M 646 i [] := by
  refine l_x hx (dq tL2 60 rfl) rfl ?_
  refine l_arg hx 1 (by decide) (by decide) h0 hi (dq tL2 61 rfl) (dq tL2 62 rfl) (dq tL2 63 rfl) (dq tL2 64 rfl) (dq tL2 65 rfl) rfl ?_
  refine l_call (As := [vI (fz f i 1)]) (rest := []) hx (ctX9_launch Γ M (fz f i 1) (rI _).1 (rI _).2 h.gd) mlL_74 (obX9 (by decide)) (dq tL2 66 rfl) rfl (Nat.le_of_ble_eq_true rfl) (Nat.le_of_ble_eq_true rfl) (Nat.le_of_ble_eq_true rfl) rfl (fun z1 M1 hzz1 p1 => ?_)
  have h1 : Inv M1 := h.cls (fun u v q => p1.1 u v (by omega)) p1.2
  have r1 : RelC M1 := r.cls (fun u v q => p1.1 u v (by omega))
  refine l_pop hx (dq tL2 67 rfl) rfl ?_
  refine l_m hx (dq tL2 68 rfl) rfl ?_
  refine l_arg hx 1 (by decide) (by decide) h0 hi (dq tL2 69 rfl) (dq tL2 70 rfl) (dq tL2 71 rfl) (dq tL2 72 rfl) (dq tL2 73 rfl) rfl ?_
  refine l_call (As := [vI (fz f i 1)]) (rest := []) hx (ctX10_launch Γ M1 (fz f i 1) (rI _).1 (rI _).2 h1.gm) mlL_77 (obX10 (by decide)) (dq tL2 74 rfl) rfl (Nat.le_of_ble_eq_true rfl) (Nat.le_of_ble_eq_true rfl) (Nat.le_of_ble_eq_true rfl) rfl (fun z2 M2 hzz2 p2 => ?_)
  refine l_pop hx (dq tL2 75 rfl) rfl ?_
  refine l_goto (n := 1566) hx (dq tL2 76 rfl) (by decide) ?_
  exact kk M2 (h1.ref (fun u v q => p2.1 u v (by omega)) p2.2 (h1.rl.frame (fun c j q => p2.1 c j (by omega))) (h1.on.frame (fun c j q => p2.1 c j (by omega))) (h1.im.frame (fun c j q => p2.1 c j (by omega))) (by rw [p2.1 (229 + 1) 7 (by omega)]; exact h1.dy) (p2.1 (229 + 1) 16 (by omega)) (fun k _ => p2.1 (229 + 57) k (by omega)) (fun j _ => p2.1 (229 + 56) j (by omega))) (r1.ref (fun u v q => p2.1 u v (by omega)) (SmB.of (fun u v q => p2.1 u v (by omega))) (fun j _ => p2.1 (229 + 56) j (by omega)) (fun k _ => p2.1 (229 + 57) k (by omega)))

set_option maxHeartbeats 4000000 in
theorem law_land {Γ : Gam} {x : Cx} {b L : Nat} {f : Nat → Int32} {M : zM} {i : Int} (hx : OkL Γ x b L f) (h : Inv M) (r : RelC M) (h0 : 0 ≤ i) (hi : i + 6 ≤ L) (kk : ∀ M', Inv M' → RelC M' → GL Γ x b M' 1566 i []) : GL Γ x b M 669 i [] := by
  refine l_x hx (dq tL2 77 rfl) rfl ?_
  refine l_arg hx 1 (by decide) (by decide) h0 hi (dq tL2 78 rfl) (dq tL2 79 rfl) (dq tL2 80 rfl) (dq tL2 81 rfl) (dq tL2 82 rfl) rfl ?_
  refine l_arg hx 2 (by decide) (by decide) h0 hi (dq tL2 83 rfl) (dq tL2 84 rfl) (dq tL2 85 rfl) (dq tL2 86 rfl) (dq tL2 87 rfl) rfl ?_
  refine l_call (As := [vI (fz f i 1), vI (fz f i 2)]) (rest := []) hx (ctX9_land Γ M (fz f i 1) (rI _).1 (rI _).2 (fz f i 2) (rI _).1 (rI _).2 h.gd) mlL_78 (obX9 (by decide)) (dq tL2 88 rfl) rfl (Nat.le_of_ble_eq_true rfl) (Nat.le_of_ble_eq_true rfl) (Nat.le_of_ble_eq_true rfl) rfl (fun z1 M1 hzz1 p1 => ?_)
  have h1 : Inv M1 := h.cls (fun u v q => p1.1 u v (by omega)) p1.2.1
  have r1 : RelC M1 := r.cls (fun u v q => p1.1 u v (by omega))
  refine l_pop hx (dq tL2 89 rfl) rfl ?_
  refine l_m hx (dq tL2 90 rfl) rfl ?_
  refine l_arg hx 1 (by decide) (by decide) h0 hi (dq tL2 91 rfl) (dq tL2 92 rfl) (dq tL2 93 rfl) (dq tL2 94 rfl) (dq tL2 95 rfl) rfl ?_
  refine l_arg hx 2 (by decide) (by decide) h0 hi (dq tL2 96 rfl) (dq tL2 97 rfl) (dq tL2 98 rfl) (dq tL2 99 rfl) (dq tL2 100 rfl) rfl ?_
  refine l_call (As := [vI (fz f i 1), vI (fz f i 2)]) (rest := []) hx (ctX10_land Γ M1 (fz f i 1) (rI _).1 (rI _).2 (fz f i 2) (rI _).1 (rI _).2 h1.gm) mlL_82 (obX10 (by decide)) (dq tL2 101 rfl) rfl (Nat.le_of_ble_eq_true rfl) (Nat.le_of_ble_eq_true rfl) (Nat.le_of_ble_eq_true rfl) rfl (fun z2 M2 hzz2 p2 => ?_)
  refine l_pop hx (dq tL2 102 rfl) rfl ?_
  refine l_goto (n := 1566) hx (dq tL2 103 rfl) (by decide) ?_
  exact kk M2 (h1.ref (fun u v q => p2.1 u v (by omega)) p2.2.1 (h1.rl.frame (fun c j q => p2.1 c j (by omega))) (h1.on.frame (fun c j q => p2.1 c j (by omega))) (h1.im.frame (fun c j q => p2.1 c j (by omega))) (by rw [p2.1 (229 + 1) 7 (by omega)]; exact h1.dy) (p2.1 (229 + 1) 16 (by omega)) (fun k _ => p2.1 (229 + 57) k (by omega)) (fun j _ => p2.1 (229 + 56) j (by omega))) (r1.ref (fun u v q => p2.1 u v (by omega)) (SmB.of (fun u v q => p2.1 u v (by omega))) (fun j _ => p2.1 (229 + 56) j (by omega)) (fun k _ => p2.1 (229 + 57) k (by omega)))

set_option maxHeartbeats 4000000 in
theorem law_burn {Γ : Gam} {x : Cx} {b L : Nat} {f : Nat → Int32} {M : zM} {i : Int} (hx : OkL Γ x b L f) (h : Inv M) (r : RelC M) (h0 : 0 ≤ i) (hi : i + 6 ≤ L) (kk : ∀ M', Inv M' → RelC M' → GL Γ x b M' 1566 i []) : GL Γ x b M 702 i [] := by
  refine l_x hx (dq tL2 104 rfl) rfl ?_
  refine l_arg hx 1 (by decide) (by decide) h0 hi (dq tL2 105 rfl) (dq tL2 106 rfl) (dq tL2 107 rfl) (dq tL2 108 rfl) (dq tL2 109 rfl) rfl ?_
  refine l_call (As := [vI (fz f i 1)]) (rest := []) hx (ctX9_burn Γ M (fz f i 1) (rI _).1 (rI _).2 h.gd) mlL_83 (obX9 (by decide)) (dq tL2 110 rfl) rfl (Nat.le_of_ble_eq_true rfl) (Nat.le_of_ble_eq_true rfl) (Nat.le_of_ble_eq_true rfl) rfl (fun z1 M1 hzz1 p1 => ?_)
  have h1 : Inv M1 := h.cls (fun u v q => p1.1 u v (by omega)) p1.2
  have r1 : RelC M1 := r.cls (fun u v q => p1.1 u v (by omega))
  refine l_pop hx (dq tL2 111 rfl) rfl ?_
  refine l_m hx (dq tL2 112 rfl) rfl ?_
  refine l_arg hx 1 (by decide) (by decide) h0 hi (dq tL2 113 rfl) (dq tL2 114 rfl) (dq tL2 115 rfl) (dq tL2 116 rfl) (dq tL2 117 rfl) rfl ?_
  refine l_call (As := [vI (fz f i 1)]) (rest := []) hx (ctX10_burn Γ M1 (fz f i 1) (rI _).1 (rI _).2 h1.gm h1.rl) mlL_86 (obX10 (by decide)) (dq tL2 118 rfl) rfl (Nat.le_of_ble_eq_true rfl) (Nat.le_of_ble_eq_true rfl) (Nat.le_of_ble_eq_true rfl) rfl (fun z2 M2 hzz2 p2 => ?_)
  refine l_pop hx (dq tL2 119 rfl) rfl ?_
  refine l_goto (n := 1566) hx (dq tL2 120 rfl) (by decide) ?_
  exact kk M2 (h1.ref (fun u v q => p2.1 u v (by omega)) p2.2.1 p2.2.2 (h1.on.frame (fun c j q => p2.1 c j (by omega))) (h1.im.frame (fun c j q => p2.1 c j (by omega))) (by rw [p2.1 (229 + 1) 7 (by omega)]; exact h1.dy) (p2.1 (229 + 1) 16 (by omega)) (fun k _ => p2.1 (229 + 57) k (by omega)) (fun j _ => p2.1 (229 + 56) j (by omega))) (r1.ref (fun u v q => p2.1 u v (by omega)) (SmB.of (fun u v q => p2.1 u v (by omega))) (fun j _ => p2.1 (229 + 56) j (by omega)) (fun k _ => p2.1 (229 + 57) k (by omega)))

set_option maxHeartbeats 4000000 in
theorem law_saw {Γ : Gam} {x : Cx} {b L : Nat} {f : Nat → Int32} {M : zM} {i : Int} (hx : OkL Γ x b L f) (h : Inv M) (r : RelC M) (h0 : 0 ≤ i) (hi : i + 6 ≤ L) (kk : ∀ M', Inv M' → RelC M' → GL Γ x b M' 1566 i []) : GL Γ x b M 725 i [] := by
  refine l_x hx (dq tL2 121 rfl) rfl ?_
  refine l_arg hx 1 (by decide) (by decide) h0 hi (dq tL2 122 rfl) (dq tL2 123 rfl) (dq tL2 124 rfl) (dq tL2 125 rfl) (dq tL2 126 rfl) rfl ?_
  refine l_arg hx 2 (by decide) (by decide) h0 hi (dq tL2 127 rfl) (dq tL2 128 rfl) (dq tL2 129 rfl) (dq tL2 130 rfl) (dq tL2 131 rfl) rfl ?_
  refine l_call (As := [vI (fz f i 1), vI (fz f i 2)]) (rest := []) hx (ctX9_saw Γ M (fz f i 1) (rI _).1 (rI _).2 (fz f i 2) (rI _).1 (rI _).2 h.gd) mlL_87 (obX9 (by decide)) (dq tL2 132 rfl) rfl (Nat.le_of_ble_eq_true rfl) (Nat.le_of_ble_eq_true rfl) (Nat.le_of_ble_eq_true rfl) rfl (fun z1 M1 hzz1 p1 => ?_)
  have h1 : Inv M1 := h.cls (fun u v q => p1.1 u v (by omega)) p1.2
  have r1 : RelC M1 := r.cls (fun u v q => p1.1 u v (by omega))
  refine l_pop hx (dq tL2 133 rfl) rfl ?_
  refine l_m hx (dq tL2 134 rfl) rfl ?_
  refine l_arg hx 1 (by decide) (by decide) h0 hi (dq tL2 135 rfl) (dq tL2 136 rfl) (dq tL2 137 rfl) (dq tL2 138 rfl) (dq tL2 139 rfl) rfl ?_
  refine l_arg hx 2 (by decide) (by decide) h0 hi (dq tL2 140 rfl) (dq tL2 141 rfl) (dq tL2 142 rfl) (dq tL2 143 rfl) (dq tL2 144 rfl) rfl ?_
  refine l_call (As := [vI (fz f i 1), vI (fz f i 2)]) (rest := []) hx (ctX10_saw Γ M1 (fz f i 1) (rI _).1 (rI _).2 (fz f i 2) (rI _).1 (rI _).2) mlL_90 (obX10 (by decide)) (dq tL2 145 rfl) rfl (Nat.le_of_ble_eq_true rfl) (Nat.le_of_ble_eq_true rfl) (Nat.le_of_ble_eq_true rfl) rfl (fun z2 M2 hzz2 p2 => ?_)
  refine l_pop hx (dq tL2 146 rfl) rfl ?_
  refine l_goto (n := 1566) hx (dq tL2 147 rfl) (by decide) ?_
  have p2 := And.intro p2 trivial
  exact kk M2 (h1.ref (fun u v q => p2.1 u v (by omega)) (h1.gm.frame (fun c j q => p2.1 c j (by omega))) (h1.rl.frame (fun c j q => p2.1 c j (by omega))) (h1.on.frame (fun c j q => p2.1 c j (by omega))) (h1.im.frame (fun c j q => p2.1 c j (by omega))) (by rw [p2.1 (229 + 1) 7 (by omega)]; exact h1.dy) (p2.1 (229 + 1) 16 (by omega)) (fun k _ => p2.1 (229 + 57) k (by omega)) (fun j _ => p2.1 (229 + 56) j (by omega))) (r1.ref (fun u v q => p2.1 u v (by omega)) (SmB.of (fun u v q => p2.1 u v (by omega))) (fun j _ => p2.1 (229 + 56) j (by omega)) (fun k _ => p2.1 (229 + 57) k (by omega)))

set_option maxHeartbeats 4000000 in
theorem law_ahead {Γ : Gam} {x : Cx} {b L : Nat} {f : Nat → Int32} {M : zM} {i : Int} (hx : OkL Γ x b L f) (h : Inv M) (r : RelC M) (h0 : 0 ≤ i) (hi : i + 6 ≤ L) (kk : ∀ M', Inv M' → RelC M' → GL Γ x b M' 1566 i []) : GL Γ x b M 758 i [] := by
  refine l_x hx (dq tL2 148 rfl) rfl ?_
  refine l_arg hx 1 (by decide) (by decide) h0 hi (dq tL2 149 rfl) (dq tL3 0 rfl) (dq tL3 1 rfl) (dq tL3 2 rfl) (dq tL3 3 rfl) rfl ?_
  refine l_arg hx 2 (by decide) (by decide) h0 hi (dq tL3 4 rfl) (dq tL3 5 rfl) (dq tL3 6 rfl) (dq tL3 7 rfl) (dq tL3 8 rfl) rfl ?_
  refine l_call (As := [vI (fz f i 1), vI (fz f i 2)]) (rest := []) hx (ctX9_ahead Γ M (fz f i 1) (rI _).1 (rI _).2 (fz f i 2) (rI _).1 (rI _).2 h.gd) mlL_91 (obX9 (by decide)) (dq tL3 9 rfl) rfl (Nat.le_of_ble_eq_true rfl) (Nat.le_of_ble_eq_true rfl) (Nat.le_of_ble_eq_true rfl) rfl (fun z1 M1 hzz1 p1 => ?_)
  have h1 : Inv M1 := h.cls (fun u v q => p1.1 u v (by omega)) p1.2
  have r1 : RelC M1 := r.cls (fun u v q => p1.1 u v (by omega))
  refine l_pop hx (dq tL3 10 rfl) rfl ?_
  refine l_m hx (dq tL3 11 rfl) rfl ?_
  refine l_arg hx 1 (by decide) (by decide) h0 hi (dq tL3 12 rfl) (dq tL3 13 rfl) (dq tL3 14 rfl) (dq tL3 15 rfl) (dq tL3 16 rfl) rfl ?_
  refine l_arg hx 2 (by decide) (by decide) h0 hi (dq tL3 17 rfl) (dq tL3 18 rfl) (dq tL3 19 rfl) (dq tL3 20 rfl) (dq tL3 21 rfl) rfl ?_
  refine l_call (As := [vI (fz f i 1), vI (fz f i 2)]) (rest := []) hx (ctX10_ahead Γ M1 (fz f i 1) (rI _).1 (rI _).2 (fz f i 2) (rI _).1 (rI _).2 h1.gm h1.rl h1.on) mlL_94 (obX10 (by decide)) (dq tL3 22 rfl) rfl (Nat.le_of_ble_eq_true rfl) (Nat.le_of_ble_eq_true rfl) (Nat.le_of_ble_eq_true rfl) rfl (fun z2 M2 hzz2 p2 => ?_)
  refine l_pop hx (dq tL3 23 rfl) rfl ?_
  refine l_goto (n := 1566) hx (dq tL3 24 rfl) (by decide) ?_
  exact kk M2 (h1.ref (fun u v q => p2.1 u v (by omega)) p2.2.1 p2.2.2.1 p2.2.2.2 (h1.im.frame (fun c j q => p2.1 c j (by omega))) (by rw [p2.1 (229 + 1) 7 (by omega)]; exact h1.dy) (p2.1 (229 + 1) 16 (by omega)) (fun k _ => p2.1 (229 + 57) k (by omega)) (fun j _ => p2.1 (229 + 56) j (by omega))) (r1.ref (fun u v q => p2.1 u v (by omega)) (SmB.of (fun u v q => p2.1 u v (by omega))) (fun j _ => p2.1 (229 + 56) j (by omega)) (fun k _ => p2.1 (229 + 57) k (by omega)))

set_option maxHeartbeats 4000000 in
theorem law_dam {Γ : Gam} {x : Cx} {b L : Nat} {f : Nat → Int32} {M : zM} {i : Int} (hx : OkL Γ x b L f) (h : Inv M) (r : RelC M) (h0 : 0 ≤ i) (hi : i + 6 ≤ L) (kk : ∀ M', Inv M' → RelC M' → GL Γ x b M' 1566 i []) : GL Γ x b M 791 i [] := by
  refine l_x hx (dq tL3 25 rfl) rfl ?_
  refine l_arg hx 1 (by decide) (by decide) h0 hi (dq tL3 26 rfl) (dq tL3 27 rfl) (dq tL3 28 rfl) (dq tL3 29 rfl) (dq tL3 30 rfl) rfl ?_
  refine l_call (As := [vI (fz f i 1)]) (rest := []) hx (ctX9_dam Γ M (fz f i 1) (rI _).1 (rI _).2 h.gd) mlL_95 (obX9 (by decide)) (dq tL3 31 rfl) rfl (Nat.le_of_ble_eq_true rfl) (Nat.le_of_ble_eq_true rfl) (Nat.le_of_ble_eq_true rfl) rfl (fun z1 M1 hzz1 p1 => ?_)
  have h1 : Inv M1 := h.cls (fun u v q => p1.1 u v (by omega)) p1.2
  have r1 : RelC M1 := r.cls (fun u v q => p1.1 u v (by omega))
  refine l_pop hx (dq tL3 32 rfl) rfl ?_
  refine l_m hx (dq tL3 33 rfl) rfl ?_
  refine l_arg hx 1 (by decide) (by decide) h0 hi (dq tL3 34 rfl) (dq tL3 35 rfl) (dq tL3 36 rfl) (dq tL3 37 rfl) (dq tL3 38 rfl) rfl ?_
  refine l_call (As := [vI (fz f i 1)]) (rest := []) hx (ctX10_dam Γ M1 (fz f i 1) (rI _).1 (rI _).2) mlL_98 (obX10 (by decide)) (dq tL3 39 rfl) rfl (Nat.le_of_ble_eq_true rfl) (Nat.le_of_ble_eq_true rfl) (Nat.le_of_ble_eq_true rfl) rfl (fun z2 M2 hzz2 p2 => ?_)
  refine l_pop hx (dq tL3 40 rfl) rfl ?_
  refine l_goto (n := 1566) hx (dq tL3 41 rfl) (by decide) ?_
  have p2 := And.intro p2 trivial
  exact kk M2 (h1.ref (fun u v q => p2.1 u v (by omega)) (h1.gm.frame (fun c j q => p2.1 c j (by omega))) (h1.rl.frame (fun c j q => p2.1 c j (by omega))) (h1.on.frame (fun c j q => p2.1 c j (by omega))) (h1.im.frame (fun c j q => p2.1 c j (by omega))) (by rw [p2.1 (229 + 1) 7 (by omega)]; exact h1.dy) (p2.1 (229 + 1) 16 (by omega)) (fun k _ => p2.1 (229 + 57) k (by omega)) (fun j _ => p2.1 (229 + 56) j (by omega))) (r1.ref (fun u v q => p2.1 u v (by omega)) (SmB.of (fun u v q => p2.1 u v (by omega))) (fun j _ => p2.1 (229 + 56) j (by omega)) (fun k _ => p2.1 (229 + 57) k (by omega)))

set_option maxHeartbeats 4000000 in
theorem law_appeal {Γ : Gam} {x : Cx} {b L : Nat} {f : Nat → Int32} {M : zM} {i : Int} (hx : OkL Γ x b L f) (h : Inv M) (r : RelC M) (h0 : 0 ≤ i) (hi : i + 6 ≤ L) (kk : ∀ M', Inv M' → RelC M' → GL Γ x b M' 1566 i []) : GL Γ x b M 814 i [] := by
  refine l_x hx (dq tL3 42 rfl) rfl ?_
  refine l_arg hx 1 (by decide) (by decide) h0 hi (dq tL3 43 rfl) (dq tL3 44 rfl) (dq tL3 45 rfl) (dq tL3 46 rfl) (dq tL3 47 rfl) rfl ?_
  refine l_call (As := [vI (fz f i 1)]) (rest := []) hx (ctX9_appeal Γ M (fz f i 1) (rI _).1 (rI _).2 h.gd) mlL_99 (obX9 (by decide)) (dq tL3 48 rfl) rfl (Nat.le_of_ble_eq_true rfl) (Nat.le_of_ble_eq_true rfl) (Nat.le_of_ble_eq_true rfl) rfl (fun z1 M1 hzz1 p1 => ?_)
  have h1 : Inv M1 := h.cls (fun u v q => p1.1 u v (by omega)) p1.2
  have r1 : RelC M1 := r.cls (fun u v q => p1.1 u v (by omega))
  refine l_pop hx (dq tL3 49 rfl) rfl ?_
  refine l_m hx (dq tL3 50 rfl) rfl ?_
  refine l_arg hx 1 (by decide) (by decide) h0 hi (dq tL3 51 rfl) (dq tL3 52 rfl) (dq tL3 53 rfl) (dq tL3 54 rfl) (dq tL3 55 rfl) rfl ?_
  refine l_call (As := [vI (fz f i 1)]) (rest := []) hx (ctX10_appeal Γ M1 (fz f i 1) (rI _).1 (rI _).2 h1.gm h1.rl) mlL_102 (obX10 (by decide)) (dq tL3 56 rfl) rfl (Nat.le_of_ble_eq_true rfl) (Nat.le_of_ble_eq_true rfl) (Nat.le_of_ble_eq_true rfl) rfl (fun z2 M2 hzz2 p2 => ?_)
  refine l_pop hx (dq tL3 57 rfl) rfl ?_
  refine l_goto (n := 1566) hx (dq tL3 58 rfl) (by decide) ?_
  exact kk M2 (h1.ref (fun u v q => p2.1 u v (by omega)) p2.2.1 p2.2.2 (h1.on.frame (fun c j q => p2.1 c j (by omega))) (h1.im.frame (fun c j q => p2.1 c j (by omega))) (by rw [p2.1 (229 + 1) 7 (by omega)]; exact h1.dy) (p2.1 (229 + 1) 16 (by omega)) (fun k _ => p2.1 (229 + 57) k (by omega)) (fun j _ => p2.1 (229 + 56) j (by omega))) (r1.ref (fun u v q => p2.1 u v (by omega)) (SmB.of (fun u v q => p2.1 u v (by omega))) (fun j _ => p2.1 (229 + 56) j (by omega)) (fun k _ => p2.1 (229 + 57) k (by omega)))

set_option maxHeartbeats 4000000 in
theorem law_votes {Γ : Gam} {x : Cx} {b L : Nat} {f : Nat → Int32} {M : zM} {i : Int} (hx : OkL Γ x b L f) (h : Inv M) (r : RelC M) (h0 : 0 ≤ i) (hi : i + 6 ≤ L) (kk : ∀ M', Inv M' → RelC M' → GL Γ x b M' 1566 i []) : GL Γ x b M 837 i [] := by
  refine l_x hx (dq tL3 59 rfl) rfl ?_
  refine l_arg hx 1 (by decide) (by decide) h0 hi (dq tL3 60 rfl) (dq tL3 61 rfl) (dq tL3 62 rfl) (dq tL3 63 rfl) (dq tL3 64 rfl) rfl ?_
  refine l_arg hx 2 (by decide) (by decide) h0 hi (dq tL3 65 rfl) (dq tL3 66 rfl) (dq tL3 67 rfl) (dq tL3 68 rfl) (dq tL3 69 rfl) rfl ?_
  refine l_call (As := [vI (fz f i 1), vI (fz f i 2)]) (rest := []) hx (ctX9_votes Γ M (fz f i 1) (rI _).1 (rI _).2 (fz f i 2) (rI _).1 (rI _).2 h.gd) mlL_103 (obX9 (by decide)) (dq tL3 70 rfl) rfl (Nat.le_of_ble_eq_true rfl) (Nat.le_of_ble_eq_true rfl) (Nat.le_of_ble_eq_true rfl) rfl (fun z1 M1 hzz1 p1 => ?_)
  have e1 : M = M1 := p1
  subst e1
  refine l_pop hx (dq tL3 71 rfl) rfl ?_
  refine l_m hx (dq tL3 72 rfl) rfl ?_
  refine l_arg hx 1 (by decide) (by decide) h0 hi (dq tL3 73 rfl) (dq tL3 74 rfl) (dq tL3 75 rfl) (dq tL3 76 rfl) (dq tL3 77 rfl) rfl ?_
  refine l_arg hx 2 (by decide) (by decide) h0 hi (dq tL3 78 rfl) (dq tL3 79 rfl) (dq tL3 80 rfl) (dq tL3 81 rfl) (dq tL3 82 rfl) rfl ?_
  refine l_call (As := [vI (fz f i 1), vI (fz f i 2)]) (rest := []) hx (ctX10_votes Γ M (fz f i 1) (rI _).1 (rI _).2 (fz f i 2) (rI _).1 (rI _).2 h.gm h.rl) mlL_106 (obX10 (by decide)) (dq tL3 83 rfl) rfl (Nat.le_of_ble_eq_true rfl) (Nat.le_of_ble_eq_true rfl) (Nat.le_of_ble_eq_true rfl) rfl (fun z2 M2 hzz2 p2 => ?_)
  refine l_pop hx (dq tL3 84 rfl) rfl ?_
  refine l_goto (n := 1566) hx (dq tL3 85 rfl) (by decide) ?_
  have e2 : M = M2 := p2
  subst e2
  exact kk _ h r

set_option maxHeartbeats 4000000 in
theorem law_flood {Γ : Gam} {x : Cx} {b L : Nat} {f : Nat → Int32} {M : zM} {i : Int} (hx : OkL Γ x b L f) (h : Inv M) (r : RelC M) (h0 : 0 ≤ i) (hi : i + 6 ≤ L) (kk : ∀ M', Inv M' → RelC M' → GL Γ x b M' 1566 i []) : GL Γ x b M 870 i [] := by
  refine l_x hx (dq tL3 86 rfl) rfl ?_
  refine l_arg hx 1 (by decide) (by decide) h0 hi (dq tL3 87 rfl) (dq tL3 88 rfl) (dq tL3 89 rfl) (dq tL3 90 rfl) (dq tL3 91 rfl) rfl ?_
  refine l_call (As := [vI (fz f i 1)]) (rest := []) hx (ctX9_flood2 Γ M (fz f i 1) (rI _).1 (rI _).2 r.wat h.gd) mlL_107 (obX9 (by decide)) (dq tL3 92 rfl) rfl (Nat.le_of_ble_eq_true rfl) (Nat.le_of_ble_eq_true rfl) (Nat.le_of_ble_eq_true rfl) rfl (fun z1 M1 hzz1 p1 => ?_)
  have h1 : Inv M1 := h.cls (fun u v q => p1.1 u v (by omega)) p1.2.1
  refine l_pop hx (dq tL3 93 rfl) rfl ?_
  refine l_m hx (dq tL3 94 rfl) rfl ?_
  refine l_arg hx 1 (by decide) (by decide) h0 hi (dq tL3 95 rfl) (dq tL3 96 rfl) (dq tL3 97 rfl) (dq tL3 98 rfl) (dq tL3 99 rfl) rfl ?_
  refine l_call (As := [vI (fz f i 1)]) (rest := []) hx (ctX10_flood3 Γ M1 (fz f i 1) (rI _).1 (rI _).2 (by have w := r.wat2; have e : M1 (229 + 1) 8 = M (229 + 1) 8 := p1.1 _ _ (by omega); omega) h1.gm h1.rl h1.on) mlL_110 (obX10 (by decide)) (dq tL3 100 rfl) rfl (Nat.le_of_ble_eq_true rfl) (Nat.le_of_ble_eq_true rfl) (Nat.le_of_ble_eq_true rfl) rfl (fun z2 M2 hzz2 p2 => ?_)
  have hz := rel_flood r p1 p2
  refine l_pop hx (dq tL3 101 rfl) rfl ?_
  refine l_goto (n := 1566) hx (dq tL3 102 rfl) (by decide) ?_
  exact kk M2 (h1.ref (fun u v q => p2.1 u v (by omega)) p2.2.1 p2.2.2.1 p2.2.2.2.1 (h1.im.frame (fun c j q => p2.1 c j (by omega))) (by rw [p2.1 (229 + 1) 7 (by omega)]; exact h1.dy) (p2.1 (229 + 1) 16 (by omega)) (fun k _ => p2.1 (229 + 57) k (by omega)) (fun j _ => p2.1 (229 + 56) j (by omega))) hz.2

set_option maxHeartbeats 4000000 in
theorem law_elected {Γ : Gam} {x : Cx} {b L : Nat} {f : Nat → Int32} {M : zM} {i : Int} (hx : OkL Γ x b L f) (h : Inv M) (r : RelC M) (h0 : 0 ≤ i) (hi : i + 6 ≤ L) (kk : ∀ M', Inv M' → RelC M' → GL Γ x b M' 1566 i []) : GL Γ x b M 893 i [] := by
  refine l_x hx (dq tL3 103 rfl) rfl ?_
  refine l_arg hx 1 (by decide) (by decide) h0 hi (dq tL3 104 rfl) (dq tL3 105 rfl) (dq tL3 106 rfl) (dq tL3 107 rfl) (dq tL3 108 rfl) rfl ?_
  refine l_call (As := [vI (fz f i 1)]) (rest := []) hx (ctX9_elected Γ M (fz f i 1) (rI _).1 (rI _).2 h.gd) mlL_111 (obX9 (by decide)) (dq tL3 109 rfl) rfl (Nat.le_of_ble_eq_true rfl) (Nat.le_of_ble_eq_true rfl) (Nat.le_of_ble_eq_true rfl) rfl (fun z1 M1 hzz1 p1 => ?_)
  have h1 : Inv M1 := h.cls (fun u v q => p1.1 u v (by omega)) p1.2
  have r1 : RelC M1 := r.cls (fun u v q => p1.1 u v (by omega))
  refine l_pop hx (dq tL3 110 rfl) rfl ?_
  refine l_m hx (dq tL3 111 rfl) rfl ?_
  refine l_arg hx 1 (by decide) (by decide) h0 hi (dq tL3 112 rfl) (dq tL3 113 rfl) (dq tL3 114 rfl) (dq tL3 115 rfl) (dq tL3 116 rfl) rfl ?_
  refine l_call (As := [vI (fz f i 1)]) (rest := []) hx (ctX10_elected Γ M1 (fz f i 1) (rI _).1 (rI _).2 h1.dy h1.gm h1.rl h1.on) mlL_114 (obX10 (by decide)) (dq tL3 117 rfl) rfl (Nat.le_of_ble_eq_true rfl) (Nat.le_of_ble_eq_true rfl) (Nat.le_of_ble_eq_true rfl) rfl (fun z2 M2 hzz2 p2 => ?_)
  refine l_pop hx (dq tL3 118 rfl) rfl ?_
  refine l_goto (n := 1566) hx (dq tL3 119 rfl) (by decide) ?_
  exact kk M2 (h1.ref (fun u v q => p2.1 u v (by omega)) p2.2.1 p2.2.2.1 p2.2.2.2.1 (h1.im.frame (fun c j q => by
    rcases q with ⟨rfl, rfl⟩ | ⟨rfl, q⟩ | rfl
    · exact p2.1 229 41 (by omega)
    · exact p2.2.2.2.2.2 j q
    · exact p2.1 (229 + 57) j (by omega))) (by rw [p2.2.2.2.2.1 (229 + 1) 7 (by omega) (by omega) (by decide)]; exact h1.dy) (p2.2.2.2.2.1 (229 + 1) 16 (by omega) (by omega) (by decide)) (fun k _ => p2.1 (229 + 57) k (by omega)) p2.2.2.2.2.2) (r1.ref (fun u v q => p2.1 u v (by omega)) (Sm.b p2.2.2.2.2.1) p2.2.2.2.2.2 (fun k _ => p2.1 (229 + 57) k (by omega)))

set_option maxHeartbeats 4000000 in
theorem law_wedding {Γ : Gam} {x : Cx} {b L : Nat} {f : Nat → Int32} {M : zM} {i : Int} (hx : OkL Γ x b L f) (h : Inv M) (r : RelC M) (h0 : 0 ≤ i) (hi : i + 6 ≤ L) (kk : ∀ M', Inv M' → RelC M' → GL Γ x b M' 1566 i []) : GL Γ x b M 916 i [] := by
  refine l_x hx (dq tL3 120 rfl) rfl ?_
  refine l_arg hx 1 (by decide) (by decide) h0 hi (dq tL3 121 rfl) (dq tL3 122 rfl) (dq tL3 123 rfl) (dq tL3 124 rfl) (dq tL3 125 rfl) rfl ?_
  refine l_call (As := [vI (fz f i 1)]) (rest := []) hx (ctX9_wedding Γ M (fz f i 1) (rI _).1 (rI _).2 h.gd) mlL_115 (obX9 (by decide)) (dq tL3 126 rfl) rfl (Nat.le_of_ble_eq_true rfl) (Nat.le_of_ble_eq_true rfl) (Nat.le_of_ble_eq_true rfl) rfl (fun z1 M1 hzz1 p1 => ?_)
  have h1 : Inv M1 := h.cls (fun u v q => p1.1 u v (by omega)) p1.2
  have r1 : RelC M1 := r.cls (fun u v q => p1.1 u v (by omega))
  refine l_pop hx (dq tL3 127 rfl) rfl ?_
  refine l_m hx (dq tL3 128 rfl) rfl ?_
  refine l_arg hx 1 (by decide) (by decide) h0 hi (dq tL3 129 rfl) (dq tL3 130 rfl) (dq tL3 131 rfl) (dq tL3 132 rfl) (dq tL3 133 rfl) rfl ?_
  refine l_call (As := [vI (fz f i 1)]) (rest := []) hx (ctX10_wedding Γ M1 (fz f i 1) (rI _).1 (rI _).2) mlL_118 (obX10 (by decide)) (dq tL3 134 rfl) rfl (Nat.le_of_ble_eq_true rfl) (Nat.le_of_ble_eq_true rfl) (Nat.le_of_ble_eq_true rfl) rfl (fun z2 M2 hzz2 p2 => ?_)
  refine l_pop hx (dq tL3 135 rfl) rfl ?_
  refine l_goto (n := 1566) hx (dq tL3 136 rfl) (by decide) ?_
  have p2 := And.intro p2 trivial
  exact kk M2 (h1.ref (fun u v q => p2.1 u v (by omega)) (h1.gm.frame (fun c j q => p2.1 c j (by omega))) (h1.rl.frame (fun c j q => p2.1 c j (by omega))) (h1.on.frame (fun c j q => p2.1 c j (by omega))) (h1.im.frame (fun c j q => p2.1 c j (by omega))) (by rw [p2.1 (229 + 1) 7 (by omega)]; exact h1.dy) (p2.1 (229 + 1) 16 (by omega)) (fun k _ => p2.1 (229 + 57) k (by omega)) (fun j _ => p2.1 (229 + 56) j (by omega))) (r1.ref (fun u v q => p2.1 u v (by omega)) (SmB.of (fun u v q => p2.1 u v (by omega))) (fun j _ => p2.1 (229 + 56) j (by omega)) (fun k _ => p2.1 (229 + 57) k (by omega)))

set_option maxHeartbeats 4000000 in
theorem law_winter {Γ : Gam} {x : Cx} {b L : Nat} {f : Nat → Int32} {M : zM} {i : Int} (hx : OkL Γ x b L f) (h : Inv M) (r : RelC M) (h0 : 0 ≤ i) (hi : i + 6 ≤ L) (kk : ∀ M', Inv M' → RelC M' → GL Γ x b M' 1566 i []) : GL Γ x b M 939 i [] := by
  refine l_x hx (dq tL3 137 rfl) rfl ?_
  refine l_arg hx 1 (by decide) (by decide) h0 hi (dq tL3 138 rfl) (dq tL3 139 rfl) (dq tL3 140 rfl) (dq tL3 141 rfl) (dq tL3 142 rfl) rfl ?_
  refine l_call (As := [vI (fz f i 1)]) (rest := []) hx (ctX9_winter Γ M (fz f i 1) (rI _).1 (rI _).2 h.gd) mlL_119 (obX9 (by decide)) (dq tL3 143 rfl) rfl (Nat.le_of_ble_eq_true rfl) (Nat.le_of_ble_eq_true rfl) (Nat.le_of_ble_eq_true rfl) rfl (fun z1 M1 hzz1 p1 => ?_)
  have h1 : Inv M1 := h.cls (fun u v q => p1.1 u v (by omega)) p1.2
  have r1 : RelC M1 := r.cls (fun u v q => p1.1 u v (by omega))
  refine l_pop hx (dq tL3 144 rfl) rfl ?_
  refine l_m hx (dq tL3 145 rfl) rfl ?_
  refine l_arg hx 1 (by decide) (by decide) h0 hi (dq tL3 146 rfl) (dq tL3 147 rfl) (dq tL3 148 rfl) (dq tL3 149 rfl) (dq tL4 0 rfl) rfl ?_
  refine l_call (As := [vI (fz f i 1)]) (rest := []) hx (ctX10_winter Γ M1 (fz f i 1) (rI _).1 (rI _).2) mlL_122 (obX10 (by decide)) (dq tL4 1 rfl) rfl (Nat.le_of_ble_eq_true rfl) (Nat.le_of_ble_eq_true rfl) (Nat.le_of_ble_eq_true rfl) rfl (fun z2 M2 hzz2 p2 => ?_)
  refine l_pop hx (dq tL4 2 rfl) rfl ?_
  refine l_goto (n := 1566) hx (dq tL4 3 rfl) (by decide) ?_
  have p2 := And.intro p2 trivial
  exact kk M2 (h1.ref (fun u v q => p2.1 u v (by omega)) (h1.gm.frame (fun c j q => p2.1 c j (by omega))) (h1.rl.frame (fun c j q => p2.1 c j (by omega))) (h1.on.frame (fun c j q => p2.1 c j (by omega))) (h1.im.frame (fun c j q => p2.1 c j (by omega))) (by rw [p2.1 (229 + 1) 7 (by omega)]; exact h1.dy) (p2.1 (229 + 1) 16 (by omega)) (fun k _ => p2.1 (229 + 57) k (by omega)) (fun j _ => p2.1 (229 + 56) j (by omega))) (r1.ref (fun u v q => p2.1 u v (by omega)) (SmB.of (fun u v q => p2.1 u v (by omega))) (fun j _ => p2.1 (229 + 56) j (by omega)) (fun k _ => p2.1 (229 + 57) k (by omega)))

set_option maxHeartbeats 4000000 in
theorem law_days {Γ : Gam} {x : Cx} {b L : Nat} {f : Nat → Int32} {M : zM} {i : Int} (hx : OkL Γ x b L f) (h : Inv M) (r : RelC M) (h0 : 0 ≤ i) (hi : i + 6 ≤ L) (kk : ∀ M', Inv M' → RelC M' → GL Γ x b M' 1566 i []) : GL Γ x b M 962 i [] := by
  refine l_x hx (dq tL4 4 rfl) rfl ?_
  refine l_arg hx 1 (by decide) (by decide) h0 hi (dq tL4 5 rfl) (dq tL4 6 rfl) (dq tL4 7 rfl) (dq tL4 8 rfl) (dq tL4 9 rfl) rfl ?_
  refine l_call (As := [vI (fz f i 1)]) (rest := []) hx (ctX9_days2 Γ M (fz f i 1) (rI _).1 (rI _).2 h.gd) mlL_123 (obX9 (by decide)) (dq tL4 10 rfl) rfl (Nat.le_of_ble_eq_true rfl) (Nat.le_of_ble_eq_true rfl) (Nat.le_of_ble_eq_true rfl) rfl (fun z1 M1 hzz1 p1 => ?_)
  have h1 : Inv M1 := h.cls (fun u v q => p1.1 u v (by omega)) p1.2.1
  refine l_pop hx (dq tL4 11 rfl) rfl ?_
  refine l_m hx (dq tL4 12 rfl) rfl ?_
  refine l_arg hx 1 (by decide) (by decide) h0 hi (dq tL4 13 rfl) (dq tL4 14 rfl) (dq tL4 15 rfl) (dq tL4 16 rfl) (dq tL4 17 rfl) rfl ?_
  refine l_call (As := [vI (fz f i 1)]) (rest := []) hx (ctX10_days3 Γ M1 (fz f i 1) (rI _).1 (rI _).2 h1.dy h1.gm h1.rl h1.on) mlL_126 (obX10 (by decide)) (dq tL4 18 rfl) rfl (Nat.le_of_ble_eq_true rfl) (Nat.le_of_ble_eq_true rfl) (Nat.le_of_ble_eq_true rfl) rfl (fun z2 M2 hzz2 p2 => ?_)
  have hz := rel_days r p1 p2
  refine l_pop hx (dq tL4 19 rfl) rfl ?_
  refine l_goto (n := 1566) hx (dq tL4 20 rfl) (by decide) ?_
  exact kk M2 (h1.ref (fun u v q => p2.1 u v (by omega)) p2.2.1 p2.2.2.1 p2.2.2.2.1 (h1.im.frame (fun c j q => p2.1 c j (by omega))) p2.2.2.2.2.1 (p2.1 (229 + 1) 16 (by omega)) (fun k _ => p2.1 (229 + 57) k (by omega)) (fun j _ => p2.1 (229 + 56) j (by omega))) hz.2

set_option maxHeartbeats 4000000 in
theorem law_floats {Γ : Gam} {x : Cx} {b L : Nat} {f : Nat → Int32} {M : zM} {i : Int} (hx : OkL Γ x b L f) (h : Inv M) (r : RelC M) (h0 : 0 ≤ i) (hi : i + 6 ≤ L) (kk : ∀ M', Inv M' → RelC M' → GL Γ x b M' 1566 i []) : GL Γ x b M 985 i [] := by
  refine l_x hx (dq tL4 21 rfl) rfl ?_
  refine l_arg hx 1 (by decide) (by decide) h0 hi (dq tL4 22 rfl) (dq tL4 23 rfl) (dq tL4 24 rfl) (dq tL4 25 rfl) (dq tL4 26 rfl) rfl ?_
  refine l_arg hx 2 (by decide) (by decide) h0 hi (dq tL4 27 rfl) (dq tL4 28 rfl) (dq tL4 29 rfl) (dq tL4 30 rfl) (dq tL4 31 rfl) rfl ?_
  refine l_call (As := [vI (fz f i 1), vI (fz f i 2)]) (rest := []) hx (ctX9_floats Γ M (fz f i 1) (rI _).1 (rI _).2 (fz f i 2) (rI _).1 (rI _).2 h.gd) mlL_127 (obX9 (by decide)) (dq tL4 32 rfl) rfl (Nat.le_of_ble_eq_true rfl) (Nat.le_of_ble_eq_true rfl) (Nat.le_of_ble_eq_true rfl) rfl (fun z1 M1 hzz1 p1 => ?_)
  have h1 : Inv M1 := h.cls (fun u v q => p1.1 u v (by omega)) p1.2
  have r1 : RelC M1 := r.cls (fun u v q => p1.1 u v (by omega))
  refine l_pop hx (dq tL4 33 rfl) rfl ?_
  refine l_m hx (dq tL4 34 rfl) rfl ?_
  refine l_arg hx 1 (by decide) (by decide) h0 hi (dq tL4 35 rfl) (dq tL4 36 rfl) (dq tL4 37 rfl) (dq tL4 38 rfl) (dq tL4 39 rfl) rfl ?_
  refine l_arg hx 2 (by decide) (by decide) h0 hi (dq tL4 40 rfl) (dq tL4 41 rfl) (dq tL4 42 rfl) (dq tL4 43 rfl) (dq tL4 44 rfl) rfl ?_
  refine l_call (As := [vI (fz f i 1), vI (fz f i 2)]) (rest := []) hx (ctX10_floats Γ M1 (fz f i 1) (rI _).1 (rI _).2 (fz f i 2) (rI _).1 (rI _).2 h1.dy h1.gm h1.rl h1.on) mlL_130 (obX10 (by decide)) (dq tL4 45 rfl) rfl (Nat.le_of_ble_eq_true rfl) (Nat.le_of_ble_eq_true rfl) (Nat.le_of_ble_eq_true rfl) rfl (fun z2 M2 hzz2 p2 => ?_)
  refine l_pop hx (dq tL4 46 rfl) rfl ?_
  refine l_goto (n := 1566) hx (dq tL4 47 rfl) (by decide) ?_
  exact kk M2 (h1.ref (fun u v q => p2.1 u v (by omega)) p2.2.1 p2.2.2.1 p2.2.2.2.1 (h1.im.frame (fun c j q => by
    rcases q with ⟨rfl, rfl⟩ | ⟨rfl, q⟩ | rfl
    · exact p2.1 229 41 (by omega)
    · exact p2.2.2.2.2.2 j q
    · exact p2.1 (229 + 57) j (by omega))) (by rw [p2.2.2.2.2.1 (229 + 1) 7 (by omega) (by omega) (by decide)]; exact h1.dy) (p2.2.2.2.2.1 (229 + 1) 16 (by omega) (by omega) (by decide)) (fun k _ => p2.1 (229 + 57) k (by omega)) p2.2.2.2.2.2) (r1.ref (fun u v q => p2.1 u v (by omega)) (Sm.b p2.2.2.2.2.1) p2.2.2.2.2.2 (fun k _ => p2.1 (229 + 57) k (by omega)))

set_option maxHeartbeats 4000000 in
theorem law_letAhead {Γ : Gam} {x : Cx} {b L : Nat} {f : Nat → Int32} {M : zM} {i : Int} (hx : OkL Γ x b L f) (h : Inv M) (r : RelC M) (h0 : 0 ≤ i) (hi : i + 6 ≤ L) (kk : ∀ M', Inv M' → RelC M' → GL Γ x b M' 1566 i []) : GL Γ x b M 1018 i [] := by
  refine l_x hx (dq tL4 48 rfl) rfl ?_
  refine l_arg hx 1 (by decide) (by decide) h0 hi (dq tL4 49 rfl) (dq tL4 50 rfl) (dq tL4 51 rfl) (dq tL4 52 rfl) (dq tL4 53 rfl) rfl ?_
  refine l_arg hx 2 (by decide) (by decide) h0 hi (dq tL4 54 rfl) (dq tL4 55 rfl) (dq tL4 56 rfl) (dq tL4 57 rfl) (dq tL4 58 rfl) rfl ?_
  refine l_call (As := [vI (fz f i 1), vI (fz f i 2)]) (rest := []) hx (ctX9_letAhead Γ M (fz f i 1) (rI _).1 (rI _).2 (fz f i 2) (rI _).1 (rI _).2 h.gd) mlL_131 (obX9 (by decide)) (dq tL4 59 rfl) rfl (Nat.le_of_ble_eq_true rfl) (Nat.le_of_ble_eq_true rfl) (Nat.le_of_ble_eq_true rfl) rfl (fun z1 M1 hzz1 p1 => ?_)
  have h1 : Inv M1 := h.cls (fun u v q => p1.1 u v (by omega)) p1.2
  have r1 : RelC M1 := r.cls (fun u v q => p1.1 u v (by omega))
  refine l_pop hx (dq tL4 60 rfl) rfl ?_
  refine l_m hx (dq tL4 61 rfl) rfl ?_
  refine l_arg hx 1 (by decide) (by decide) h0 hi (dq tL4 62 rfl) (dq tL4 63 rfl) (dq tL4 64 rfl) (dq tL4 65 rfl) (dq tL4 66 rfl) rfl ?_
  refine l_arg hx 2 (by decide) (by decide) h0 hi (dq tL4 67 rfl) (dq tL4 68 rfl) (dq tL4 69 rfl) (dq tL4 70 rfl) (dq tL4 71 rfl) rfl ?_
  refine l_call (As := [vI (fz f i 1), vI (fz f i 2)]) (rest := []) hx (ctX10_letAhead Γ M1 (fz f i 1) (rI _).1 (rI _).2 (fz f i 2) (rI _).1 (rI _).2 h1.dy h1.gm h1.rl h1.on) mlL_134 (obX10 (by decide)) (dq tL4 72 rfl) rfl (Nat.le_of_ble_eq_true rfl) (Nat.le_of_ble_eq_true rfl) (Nat.le_of_ble_eq_true rfl) rfl (fun z2 M2 hzz2 p2 => ?_)
  refine l_pop hx (dq tL4 73 rfl) rfl ?_
  refine l_goto (n := 1566) hx (dq tL4 74 rfl) (by decide) ?_
  exact kk M2 (h1.ref (fun u v q => p2.1 u v (by omega)) p2.2.1 p2.2.2.1 p2.2.2.2.1 (h1.im.frame (fun c j q => by
    rcases q with ⟨rfl, rfl⟩ | ⟨rfl, q⟩ | rfl
    · exact p2.1 229 41 (by omega)
    · exact p2.2.2.2.2.2 j q
    · exact p2.1 (229 + 57) j (by omega))) (by rw [p2.2.2.2.2.1 (229 + 1) 7 (by omega) (by omega) (by decide)]; exact h1.dy) (p2.2.2.2.2.1 (229 + 1) 16 (by omega) (by omega) (by decide)) (fun k _ => p2.1 (229 + 57) k (by omega)) p2.2.2.2.2.2) (r1.ref (fun u v q => p2.1 u v (by omega)) (Sm.b p2.2.2.2.2.1) p2.2.2.2.2.2 (fun k _ => p2.1 (229 + 57) k (by omega)))

set_option maxHeartbeats 4000000 in
theorem law_kin {Γ : Gam} {x : Cx} {b L : Nat} {f : Nat → Int32} {M : zM} {i : Int} (hx : OkL Γ x b L f) (h : Inv M) (r : RelC M) (h0 : 0 ≤ i) (hi : i + 6 ≤ L) (kk : ∀ M', Inv M' → RelC M' → GL Γ x b M' 1566 i []) : GL Γ x b M 1051 i [] := by
  refine l_x hx (dq tL4 75 rfl) rfl ?_
  refine l_arg hx 1 (by decide) (by decide) h0 hi (dq tL4 76 rfl) (dq tL4 77 rfl) (dq tL4 78 rfl) (dq tL4 79 rfl) (dq tL4 80 rfl) rfl ?_
  refine l_arg hx 2 (by decide) (by decide) h0 hi (dq tL4 81 rfl) (dq tL4 82 rfl) (dq tL4 83 rfl) (dq tL4 84 rfl) (dq tL4 85 rfl) rfl ?_
  refine l_call (As := [vI (fz f i 1), vI (fz f i 2)]) (rest := []) hx (ctX9_kin Γ M (fz f i 1) (rI _).1 (rI _).2 (fz f i 2) (rI _).1 (rI _).2 h.gd) mlL_135 (obX9 (by decide)) (dq tL4 86 rfl) rfl (Nat.le_of_ble_eq_true rfl) (Nat.le_of_ble_eq_true rfl) (Nat.le_of_ble_eq_true rfl) rfl (fun z1 M1 hzz1 p1 => ?_)
  have e1 : M = M1 := p1
  subst e1
  refine l_pop hx (dq tL4 87 rfl) rfl ?_
  refine l_m hx (dq tL4 88 rfl) rfl ?_
  refine l_arg hx 1 (by decide) (by decide) h0 hi (dq tL4 89 rfl) (dq tL4 90 rfl) (dq tL4 91 rfl) (dq tL4 92 rfl) (dq tL4 93 rfl) rfl ?_
  refine l_arg hx 2 (by decide) (by decide) h0 hi (dq tL4 94 rfl) (dq tL4 95 rfl) (dq tL4 96 rfl) (dq tL4 97 rfl) (dq tL4 98 rfl) rfl ?_
  refine l_call (As := [vI (fz f i 1), vI (fz f i 2)]) (rest := []) hx (ctX10_kin Γ M (fz f i 1) (rI _).1 (rI _).2 (fz f i 2) (rI _).1 (rI _).2) mlL_138 (obX10 (by decide)) (dq tL4 99 rfl) rfl (Nat.le_of_ble_eq_true rfl) (Nat.le_of_ble_eq_true rfl) (Nat.le_of_ble_eq_true rfl) rfl (fun z2 M2 hzz2 p2 => ?_)
  refine l_pop hx (dq tL4 100 rfl) rfl ?_
  refine l_goto (n := 1566) hx (dq tL4 101 rfl) (by decide) ?_
  have e2 : M = M2 := p2
  subst e2
  exact kk _ h r

set_option maxHeartbeats 4000000 in
theorem law_kinOf {Γ : Gam} {x : Cx} {b L : Nat} {f : Nat → Int32} {M : zM} {i : Int} (hx : OkL Γ x b L f) (h : Inv M) (r : RelC M) (h0 : 0 ≤ i) (hi : i + 6 ≤ L) (kk : ∀ M', Inv M' → RelC M' → GL Γ x b M' 1566 i []) : GL Γ x b M 1084 i [] := by
  refine l_x hx (dq tL4 102 rfl) rfl ?_
  refine l_arg hx 1 (by decide) (by decide) h0 hi (dq tL4 103 rfl) (dq tL4 104 rfl) (dq tL4 105 rfl) (dq tL4 106 rfl) (dq tL4 107 rfl) rfl ?_
  refine l_call (As := [vI (fz f i 1)]) (rest := []) hx (ctX9_kinOf Γ M (fz f i 1) (rI _).1 (rI _).2 h.gd) mlL_139 (obX9 (by decide)) (dq tL4 108 rfl) rfl (Nat.le_of_ble_eq_true rfl) (Nat.le_of_ble_eq_true rfl) (Nat.le_of_ble_eq_true rfl) rfl (fun z1 M1 hzz1 p1 => ?_)
  have e1 : M = M1 := p1
  subst e1
  refine l_pop hx (dq tL4 109 rfl) rfl ?_
  refine l_m hx (dq tL4 110 rfl) rfl ?_
  refine l_arg hx 1 (by decide) (by decide) h0 hi (dq tL4 111 rfl) (dq tL4 112 rfl) (dq tL4 113 rfl) (dq tL4 114 rfl) (dq tL4 115 rfl) rfl ?_
  refine l_call (As := [vI (fz f i 1)]) (rest := []) hx (ctX10_kinOf Γ M (fz f i 1) (rI _).1 (rI _).2) mlL_142 (obX10 (by decide)) (dq tL4 116 rfl) rfl (Nat.le_of_ble_eq_true rfl) (Nat.le_of_ble_eq_true rfl) (Nat.le_of_ble_eq_true rfl) rfl (fun z2 M2 hzz2 p2 => ?_)
  refine l_pop hx (dq tL4 117 rfl) rfl ?_
  refine l_goto (n := 1566) hx (dq tL4 118 rfl) (by decide) ?_
  have e2 : M = M2 := p2
  subst e2
  exact kk _ h r

set_option maxHeartbeats 4000000 in
theorem law_was {Γ : Gam} {x : Cx} {b L : Nat} {f : Nat → Int32} {M : zM} {i : Int} (hx : OkL Γ x b L f) (h : Inv M) (r : RelC M) (h0 : 0 ≤ i) (hi : i + 6 ≤ L) (kk : ∀ M', Inv M' → RelC M' → GL Γ x b M' 1566 i []) : GL Γ x b M 1107 i [] := by
  refine l_x hx (dq tL4 119 rfl) rfl ?_
  refine l_arg hx 1 (by decide) (by decide) h0 hi (dq tL4 120 rfl) (dq tL4 121 rfl) (dq tL4 122 rfl) (dq tL4 123 rfl) (dq tL4 124 rfl) rfl ?_
  refine l_arg hx 2 (by decide) (by decide) h0 hi (dq tL4 125 rfl) (dq tL4 126 rfl) (dq tL4 127 rfl) (dq tL4 128 rfl) (dq tL4 129 rfl) rfl ?_
  refine l_call (As := [vI (fz f i 1), vI (fz f i 2)]) (rest := []) hx (ctX9_was Γ M (fz f i 1) (rI _).1 (rI _).2 (fz f i 2) (rI _).1 (rI _).2 h.gd) mlL_143 (obX9 (by decide)) (dq tL4 130 rfl) rfl (Nat.le_of_ble_eq_true rfl) (Nat.le_of_ble_eq_true rfl) (Nat.le_of_ble_eq_true rfl) rfl (fun z1 M1 hzz1 p1 => ?_)
  have e1 : M = M1 := p1
  subst e1
  refine l_pop hx (dq tL4 131 rfl) rfl ?_
  refine l_m hx (dq tL4 132 rfl) rfl ?_
  refine l_arg hx 1 (by decide) (by decide) h0 hi (dq tL4 133 rfl) (dq tL4 134 rfl) (dq tL4 135 rfl) (dq tL4 136 rfl) (dq tL4 137 rfl) rfl ?_
  refine l_arg hx 2 (by decide) (by decide) h0 hi (dq tL4 138 rfl) (dq tL4 139 rfl) (dq tL4 140 rfl) (dq tL4 141 rfl) (dq tL4 142 rfl) rfl ?_
  refine l_call (As := [vI (fz f i 1), vI (fz f i 2)]) (rest := []) hx (ctX10_was Γ M (fz f i 1) (rI _).1 (rI _).2 (fz f i 2) (rI _).1 (rI _).2) mlL_146 (obX10 (by decide)) (dq tL4 143 rfl) rfl (Nat.le_of_ble_eq_true rfl) (Nat.le_of_ble_eq_true rfl) (Nat.le_of_ble_eq_true rfl) rfl (fun z2 M2 hzz2 p2 => ?_)
  refine l_pop hx (dq tL4 144 rfl) rfl ?_
  refine l_goto (n := 1566) hx (dq tL4 145 rfl) (by decide) ?_
  have e2 : M = M2 := p2
  subst e2
  exact kk _ h r

set_option maxHeartbeats 4000000 in
theorem law_wereAt {Γ : Gam} {x : Cx} {b L : Nat} {f : Nat → Int32} {M : zM} {i : Int} (hx : OkL Γ x b L f) (h : Inv M) (r : RelC M) (h0 : 0 ≤ i) (hi : i + 6 ≤ L) (kk : ∀ M', Inv M' → RelC M' → GL Γ x b M' 1566 i []) : GL Γ x b M 1140 i [] := by
  refine l_x hx (dq tL4 146 rfl) rfl ?_
  refine l_arg hx 1 (by decide) (by decide) h0 hi (dq tL4 147 rfl) (dq tL4 148 rfl) (dq tL4 149 rfl) (dq tL5 0 rfl) (dq tL5 1 rfl) rfl ?_
  refine l_arg hx 2 (by decide) (by decide) h0 hi (dq tL5 2 rfl) (dq tL5 3 rfl) (dq tL5 4 rfl) (dq tL5 5 rfl) (dq tL5 6 rfl) rfl ?_
  refine l_arg hx 3 (by decide) (by decide) h0 hi (dq tL5 7 rfl) (dq tL5 8 rfl) (dq tL5 9 rfl) (dq tL5 10 rfl) (dq tL5 11 rfl) rfl ?_
  refine l_call (As := [vI (fz f i 1), vI (fz f i 2), vI (fz f i 3)]) (rest := []) hx (ctX9_wereAt Γ M (fz f i 1) (rI _).1 (rI _).2 (fz f i 2) (rI _).1 (rI _).2 (fz f i 3) (rI _).1 (rI _).2 h.gd) mlL_147 (obX9 (by decide)) (dq tL5 12 rfl) rfl (Nat.le_of_ble_eq_true rfl) (Nat.le_of_ble_eq_true rfl) (Nat.le_of_ble_eq_true rfl) rfl (fun z1 M1 hzz1 p1 => ?_)
  have e1 : M = M1 := p1
  subst e1
  refine l_pop hx (dq tL5 13 rfl) rfl ?_
  refine l_m hx (dq tL5 14 rfl) rfl ?_
  refine l_arg hx 1 (by decide) (by decide) h0 hi (dq tL5 15 rfl) (dq tL5 16 rfl) (dq tL5 17 rfl) (dq tL5 18 rfl) (dq tL5 19 rfl) rfl ?_
  refine l_arg hx 2 (by decide) (by decide) h0 hi (dq tL5 20 rfl) (dq tL5 21 rfl) (dq tL5 22 rfl) (dq tL5 23 rfl) (dq tL5 24 rfl) rfl ?_
  refine l_arg hx 3 (by decide) (by decide) h0 hi (dq tL5 25 rfl) (dq tL5 26 rfl) (dq tL5 27 rfl) (dq tL5 28 rfl) (dq tL5 29 rfl) rfl ?_
  refine l_call (As := [vI (fz f i 1), vI (fz f i 2), vI (fz f i 3)]) (rest := []) hx (ctX10_wereAt Γ M (fz f i 1) (rI _).1 (rI _).2 (fz f i 2) (rI _).1 (rI _).2 (fz f i 3) (rI _).1 (rI _).2) mlL_150 (obX10 (by decide)) (dq tL5 30 rfl) rfl (Nat.le_of_ble_eq_true rfl) (Nat.le_of_ble_eq_true rfl) (Nat.le_of_ble_eq_true rfl) rfl (fun z2 M2 hzz2 p2 => ?_)
  refine l_pop hx (dq tL5 31 rfl) rfl ?_
  refine l_goto (n := 1566) hx (dq tL5 32 rfl) (by decide) ?_
  have e2 : M = M2 := p2
  subst e2
  exact kk _ h r

set_option maxHeartbeats 4000000 in
theorem law_likely {Γ : Gam} {x : Cx} {b L : Nat} {f : Nat → Int32} {M : zM} {i : Int} (hx : OkL Γ x b L f) (h : Inv M) (r : RelC M) (h0 : 0 ≤ i) (hi : i + 6 ≤ L) (kk : ∀ M', Inv M' → RelC M' → GL Γ x b M' 1566 i []) : GL Γ x b M 1183 i [] := by
  refine l_x hx (dq tL5 33 rfl) rfl ?_
  refine l_arg hx 1 (by decide) (by decide) h0 hi (dq tL5 34 rfl) (dq tL5 35 rfl) (dq tL5 36 rfl) (dq tL5 37 rfl) (dq tL5 38 rfl) rfl ?_
  refine l_arg hx 2 (by decide) (by decide) h0 hi (dq tL5 39 rfl) (dq tL5 40 rfl) (dq tL5 41 rfl) (dq tL5 42 rfl) (dq tL5 43 rfl) rfl ?_
  refine l_arg hx 3 (by decide) (by decide) h0 hi (dq tL5 44 rfl) (dq tL5 45 rfl) (dq tL5 46 rfl) (dq tL5 47 rfl) (dq tL5 48 rfl) rfl ?_
  refine l_arg hx 4 (by decide) (by decide) h0 hi (dq tL5 49 rfl) (dq tL5 50 rfl) (dq tL5 51 rfl) (dq tL5 52 rfl) (dq tL5 53 rfl) rfl ?_
  refine l_arg hx 5 (by decide) (by decide) h0 hi (dq tL5 54 rfl) (dq tL5 55 rfl) (dq tL5 56 rfl) (dq tL5 57 rfl) (dq tL5 58 rfl) rfl ?_
  refine l_call (As := [vI (fz f i 1), vI (fz f i 2), vI (fz f i 3), vI (fz f i 4), vI (fz f i 5)]) (rest := []) hx (ctX9_likely Γ M (fz f i 1) (rI _).1 (rI _).2 (fz f i 2) (rI _).1 (rI _).2 (fz f i 3) (rI _).1 (rI _).2 (fz f i 4) (rI _).1 (rI _).2 (fz f i 5) (rI _).1 (rI _).2 h.gd) mlL_151 (obX9 (by decide)) (dq tL5 59 rfl) rfl (Nat.le_of_ble_eq_true rfl) (Nat.le_of_ble_eq_true rfl) (Nat.le_of_ble_eq_true rfl) rfl (fun z1 M1 hzz1 p1 => ?_)
  have e1 : M = M1 := p1
  subst e1
  refine l_pop hx (dq tL5 60 rfl) rfl ?_
  refine l_m hx (dq tL5 61 rfl) rfl ?_
  refine l_arg hx 1 (by decide) (by decide) h0 hi (dq tL5 62 rfl) (dq tL5 63 rfl) (dq tL5 64 rfl) (dq tL5 65 rfl) (dq tL5 66 rfl) rfl ?_
  refine l_arg hx 2 (by decide) (by decide) h0 hi (dq tL5 67 rfl) (dq tL5 68 rfl) (dq tL5 69 rfl) (dq tL5 70 rfl) (dq tL5 71 rfl) rfl ?_
  refine l_arg hx 3 (by decide) (by decide) h0 hi (dq tL5 72 rfl) (dq tL5 73 rfl) (dq tL5 74 rfl) (dq tL5 75 rfl) (dq tL5 76 rfl) rfl ?_
  refine l_arg hx 4 (by decide) (by decide) h0 hi (dq tL5 77 rfl) (dq tL5 78 rfl) (dq tL5 79 rfl) (dq tL5 80 rfl) (dq tL5 81 rfl) rfl ?_
  refine l_arg hx 5 (by decide) (by decide) h0 hi (dq tL5 82 rfl) (dq tL5 83 rfl) (dq tL5 84 rfl) (dq tL5 85 rfl) (dq tL5 86 rfl) rfl ?_
  refine l_call (As := [vI (fz f i 1), vI (fz f i 2), vI (fz f i 3), vI (fz f i 4), vI (fz f i 5)]) (rest := []) hx (ctX10_likely Γ M (fz f i 1) (rI _).1 (rI _).2 (fz f i 2) (rI _).1 (rI _).2 (fz f i 3) (rI _).1 (rI _).2 (fz f i 4) (rI _).1 (rI _).2 (fz f i 5) (rI _).1 (rI _).2) mlL_154 (obX10 (by decide)) (dq tL5 87 rfl) rfl (Nat.le_of_ble_eq_true rfl) (Nat.le_of_ble_eq_true rfl) (Nat.le_of_ble_eq_true rfl) rfl (fun z2 M2 hzz2 p2 => ?_)
  refine l_pop hx (dq tL5 88 rfl) rfl ?_
  refine l_goto (n := 1566) hx (dq tL5 89 rfl) (by decide) ?_
  have e2 : M = M2 := p2
  subst e2
  exact kk _ h r

set_option maxHeartbeats 4000000 in
theorem law_sight {Γ : Gam} {x : Cx} {b L : Nat} {f : Nat → Int32} {M : zM} {i : Int} (hx : OkL Γ x b L f) (h : Inv M) (r : RelC M) (h0 : 0 ≤ i) (hi : i + 6 ≤ L) (kk : ∀ M', Inv M' → RelC M' → GL Γ x b M' 1566 i []) : GL Γ x b M 1246 i [] := by
  refine l_x hx (dq tL5 90 rfl) rfl ?_
  refine l_arg hx 1 (by decide) (by decide) h0 hi (dq tL5 91 rfl) (dq tL5 92 rfl) (dq tL5 93 rfl) (dq tL5 94 rfl) (dq tL5 95 rfl) rfl ?_
  refine l_arg hx 2 (by decide) (by decide) h0 hi (dq tL5 96 rfl) (dq tL5 97 rfl) (dq tL5 98 rfl) (dq tL5 99 rfl) (dq tL5 100 rfl) rfl ?_
  refine l_arg hx 3 (by decide) (by decide) h0 hi (dq tL5 101 rfl) (dq tL5 102 rfl) (dq tL5 103 rfl) (dq tL5 104 rfl) (dq tL5 105 rfl) rfl ?_
  refine l_call (As := [vI (fz f i 1), vI (fz f i 2), vI (fz f i 3)]) (rest := []) hx (ctX9_sight2 Γ M (fz f i 1) (rI _).1 (rI _).2 (fz f i 2) (rI _).1 (rI _).2 (fz f i 3) (rI _).1 (rI _).2 h.gd) mlL_155 (obX9 (by decide)) (dq tL5 106 rfl) rfl (Nat.le_of_ble_eq_true rfl) (Nat.le_of_ble_eq_true rfl) (Nat.le_of_ble_eq_true rfl) rfl (fun z1 M1 hzz1 p1 => ?_)
  have h1 : Inv M1 := h.cls (fun u v q => p1.1 u v (by omega)) p1.2.1
  refine l_pop hx (dq tL5 107 rfl) rfl ?_
  refine l_m hx (dq tL5 108 rfl) rfl ?_
  refine l_arg hx 1 (by decide) (by decide) h0 hi (dq tL5 109 rfl) (dq tL5 110 rfl) (dq tL5 111 rfl) (dq tL5 112 rfl) (dq tL5 113 rfl) rfl ?_
  refine l_arg hx 2 (by decide) (by decide) h0 hi (dq tL5 114 rfl) (dq tL5 115 rfl) (dq tL5 116 rfl) (dq tL5 117 rfl) (dq tL5 118 rfl) rfl ?_
  refine l_arg hx 3 (by decide) (by decide) h0 hi (dq tL5 119 rfl) (dq tL5 120 rfl) (dq tL5 121 rfl) (dq tL5 122 rfl) (dq tL5 123 rfl) rfl ?_
  refine l_call (As := [vI (fz f i 1), vI (fz f i 2), vI (fz f i 3)]) (rest := []) hx (ctX10_sight3 Γ M1 (fz f i 1) (rI _).1 (rI _).2 (fz f i 2) (rI _).1 (rI _).2 (fz f i 3) (rI _).1 (rI _).2) mlL_158 (obX10 (by decide)) (dq tL5 124 rfl) rfl (Nat.le_of_ble_eq_true rfl) (Nat.le_of_ble_eq_true rfl) (Nat.le_of_ble_eq_true rfl) rfl (fun z2 M2 hzz2 p2 => ?_)
  have hz := rel_sight r p1 p2
  refine l_pop hx (dq tL5 125 rfl) rfl ?_
  refine l_goto (n := 1566) hx (dq tL5 126 rfl) (by decide) ?_
  exact kk M2 (h1.ref (fun u v q => p2.1 u v (by omega)) (h1.gm.frame (fun c j q => p2.1 c j (by omega))) (h1.rl.frame (fun c j q => p2.1 c j (by omega))) (h1.on.frame (fun c j q => p2.1 c j (by omega))) (h1.im.frame (fun c j q => p2.1 c j (by omega))) (by rw [p2.1 (229 + 1) 7 (by omega)]; exact h1.dy) (p2.1 (229 + 1) 16 (by omega)) (fun k _ => p2.1 (229 + 57) k (by omega)) (fun j _ => p2.1 (229 + 56) j (by omega))) hz.2

set_option maxHeartbeats 4000000 in
theorem law_parted {Γ : Gam} {x : Cx} {b L : Nat} {f : Nat → Int32} {M : zM} {i : Int} (hx : OkL Γ x b L f) (h : Inv M) (r : RelC M) (h0 : 0 ≤ i) (hi : i + 6 ≤ L) (kk : ∀ M', Inv M' → RelC M' → GL Γ x b M' 1566 i []) : GL Γ x b M 1289 i [] := by
  refine l_x hx (dq tL5 127 rfl) rfl ?_
  refine l_arg hx 1 (by decide) (by decide) h0 hi (dq tL5 128 rfl) (dq tL5 129 rfl) (dq tL5 130 rfl) (dq tL5 131 rfl) (dq tL5 132 rfl) rfl ?_
  refine l_arg hx 2 (by decide) (by decide) h0 hi (dq tL5 133 rfl) (dq tL5 134 rfl) (dq tL5 135 rfl) (dq tL5 136 rfl) (dq tL5 137 rfl) rfl ?_
  refine l_arg hx 3 (by decide) (by decide) h0 hi (dq tL5 138 rfl) (dq tL5 139 rfl) (dq tL5 140 rfl) (dq tL5 141 rfl) (dq tL5 142 rfl) rfl ?_
  refine l_call (As := [vI (fz f i 1), vI (fz f i 2), vI (fz f i 3)]) (rest := []) hx (ctX9_parted Γ M (fz f i 1) (rI _).1 (rI _).2 (fz f i 2) (rI _).1 (rI _).2 (fz f i 3) (rI _).1 (rI _).2 h.gd) mlL_159 (obX9 (by decide)) (dq tL5 143 rfl) rfl (Nat.le_of_ble_eq_true rfl) (Nat.le_of_ble_eq_true rfl) (Nat.le_of_ble_eq_true rfl) rfl (fun z1 M1 hzz1 p1 => ?_)
  have e1 : M = M1 := p1
  subst e1
  refine l_pop hx (dq tL5 144 rfl) rfl ?_
  refine l_m hx (dq tL5 145 rfl) rfl ?_
  refine l_arg hx 1 (by decide) (by decide) h0 hi (dq tL5 146 rfl) (dq tL5 147 rfl) (dq tL5 148 rfl) (dq tL5 149 rfl) (dq tL6 0 rfl) rfl ?_
  refine l_arg hx 2 (by decide) (by decide) h0 hi (dq tL6 1 rfl) (dq tL6 2 rfl) (dq tL6 3 rfl) (dq tL6 4 rfl) (dq tL6 5 rfl) rfl ?_
  refine l_arg hx 3 (by decide) (by decide) h0 hi (dq tL6 6 rfl) (dq tL6 7 rfl) (dq tL6 8 rfl) (dq tL6 9 rfl) (dq tL6 10 rfl) rfl ?_
  refine l_call (As := [vI (fz f i 1), vI (fz f i 2), vI (fz f i 3)]) (rest := []) hx (ctX10_parted Γ M (fz f i 1) (rI _).1 (rI _).2 (fz f i 2) (rI _).1 (rI _).2 (fz f i 3) (rI _).1 (rI _).2) mlL_162 (obX10 (by decide)) (dq tL6 11 rfl) rfl (Nat.le_of_ble_eq_true rfl) (Nat.le_of_ble_eq_true rfl) (Nat.le_of_ble_eq_true rfl) rfl (fun z2 M2 hzz2 p2 => ?_)
  refine l_pop hx (dq tL6 12 rfl) rfl ?_
  refine l_goto (n := 1566) hx (dq tL6 13 rfl) (by decide) ?_
  have e2 : M = M2 := p2
  subst e2
  exact kk _ h r

set_option maxHeartbeats 4000000 in
theorem law_owes {Γ : Gam} {x : Cx} {b L : Nat} {f : Nat → Int32} {M : zM} {i : Int} (hx : OkL Γ x b L f) (h : Inv M) (r : RelC M) (h0 : 0 ≤ i) (hi : i + 6 ≤ L) (kk : ∀ M', Inv M' → RelC M' → GL Γ x b M' 1566 i []) : GL Γ x b M 1332 i [] := by
  refine l_x hx (dq tL6 14 rfl) rfl ?_
  refine l_arg hx 1 (by decide) (by decide) h0 hi (dq tL6 15 rfl) (dq tL6 16 rfl) (dq tL6 17 rfl) (dq tL6 18 rfl) (dq tL6 19 rfl) rfl ?_
  refine l_arg hx 2 (by decide) (by decide) h0 hi (dq tL6 20 rfl) (dq tL6 21 rfl) (dq tL6 22 rfl) (dq tL6 23 rfl) (dq tL6 24 rfl) rfl ?_
  refine l_call (As := [vI (fz f i 1), vI (fz f i 2)]) (rest := []) hx (ctX9_owes Γ M (fz f i 1) (rI _).1 (rI _).2 (fz f i 2) (rI _).1 (rI _).2 h.gd) mlL_163 (obX9 (by decide)) (dq tL6 25 rfl) rfl (Nat.le_of_ble_eq_true rfl) (Nat.le_of_ble_eq_true rfl) (Nat.le_of_ble_eq_true rfl) rfl (fun z1 M1 hzz1 p1 => ?_)
  have e1 : M = M1 := p1
  subst e1
  refine l_pop hx (dq tL6 26 rfl) rfl ?_
  refine l_m hx (dq tL6 27 rfl) rfl ?_
  refine l_arg hx 1 (by decide) (by decide) h0 hi (dq tL6 28 rfl) (dq tL6 29 rfl) (dq tL6 30 rfl) (dq tL6 31 rfl) (dq tL6 32 rfl) rfl ?_
  refine l_arg hx 2 (by decide) (by decide) h0 hi (dq tL6 33 rfl) (dq tL6 34 rfl) (dq tL6 35 rfl) (dq tL6 36 rfl) (dq tL6 37 rfl) rfl ?_
  refine l_call (As := [vI (fz f i 1), vI (fz f i 2)]) (rest := []) hx (ctX10_owes Γ M (fz f i 1) (rI _).1 (rI _).2 (fz f i 2) (rI _).1 (rI _).2) mlL_166 (obX10 (by decide)) (dq tL6 38 rfl) rfl (Nat.le_of_ble_eq_true rfl) (Nat.le_of_ble_eq_true rfl) (Nat.le_of_ble_eq_true rfl) rfl (fun z2 M2 hzz2 p2 => ?_)
  refine l_pop hx (dq tL6 39 rfl) rfl ?_
  refine l_goto (n := 1566) hx (dq tL6 40 rfl) (by decide) ?_
  have e2 : M = M2 := p2
  subst e2
  exact kk _ h r

set_option maxHeartbeats 4000000 in
theorem law_payments {Γ : Gam} {x : Cx} {b L : Nat} {f : Nat → Int32} {M : zM} {i : Int} (hx : OkL Γ x b L f) (h : Inv M) (r : RelC M) (h0 : 0 ≤ i) (hi : i + 6 ≤ L) (kk : ∀ M', Inv M' → RelC M' → GL Γ x b M' 1566 i []) : GL Γ x b M 1365 i [] := by
  refine l_x hx (dq tL6 41 rfl) rfl ?_
  refine l_call (As := []) (rest := []) hx (ctX9_payments Γ M h.gd) mlL_167 (obX9 (by decide)) (dq tL6 42 rfl) rfl (Nat.le_of_ble_eq_true rfl) (Nat.le_of_ble_eq_true rfl) (Nat.le_of_ble_eq_true rfl) rfl (fun z1 M1 hzz1 p1 => ?_)
  have h1 : Inv M1 := h.cls (fun u v q => p1.1 u v (by omega)) p1.2
  have r1 : RelC M1 := r.cls (fun u v q => p1.1 u v (by omega))
  refine l_pop hx (dq tL6 43 rfl) rfl ?_
  refine l_m hx (dq tL6 44 rfl) rfl ?_
  refine l_call (As := []) (rest := []) hx (ctX10_payments Γ M1) mlL_170 (obX10 (by decide)) (dq tL6 45 rfl) rfl (Nat.le_of_ble_eq_true rfl) (Nat.le_of_ble_eq_true rfl) (Nat.le_of_ble_eq_true rfl) rfl (fun z2 M2 hzz2 p2 => ?_)
  refine l_pop hx (dq tL6 46 rfl) rfl ?_
  refine l_goto (n := 1566) hx (dq tL6 47 rfl) (by decide) ?_
  have p2 := And.intro p2 trivial
  exact kk M2 (h1.ref (fun u v q => p2.1 u v (by omega)) (h1.gm.frame (fun c j q => p2.1 c j (by omega))) (h1.rl.frame (fun c j q => p2.1 c j (by omega))) (h1.on.frame (fun c j q => p2.1 c j (by omega))) (h1.im.frame (fun c j q => p2.1 c j (by omega))) (by rw [p2.1 (229 + 1) 7 (by omega)]; exact h1.dy) (p2.1 (229 + 1) 16 (by omega)) (fun k _ => p2.1 (229 + 57) k (by omega)) (fun j _ => p2.1 (229 + 56) j (by omega))) (r1.ref (fun u v q => p2.1 u v (by omega)) (SmB.of (fun u v q => p2.1 u v (by omega))) (fun j _ => p2.1 (229 + 56) j (by omega)) (fun k _ => p2.1 (229 + 57) k (by omega)))

set_option maxHeartbeats 4000000 in
theorem law_repaid {Γ : Gam} {x : Cx} {b L : Nat} {f : Nat → Int32} {M : zM} {i : Int} (hx : OkL Γ x b L f) (h : Inv M) (r : RelC M) (h0 : 0 ≤ i) (hi : i + 6 ≤ L) (kk : ∀ M', Inv M' → RelC M' → GL Γ x b M' 1566 i []) : GL Γ x b M 1378 i [] := by
  refine l_x hx (dq tL6 48 rfl) rfl ?_
  refine l_arg hx 1 (by decide) (by decide) h0 hi (dq tL6 49 rfl) (dq tL6 50 rfl) (dq tL6 51 rfl) (dq tL6 52 rfl) (dq tL6 53 rfl) rfl ?_
  refine l_arg hx 2 (by decide) (by decide) h0 hi (dq tL6 54 rfl) (dq tL6 55 rfl) (dq tL6 56 rfl) (dq tL6 57 rfl) (dq tL6 58 rfl) rfl ?_
  refine l_arg hx 3 (by decide) (by decide) h0 hi (dq tL6 59 rfl) (dq tL6 60 rfl) (dq tL6 61 rfl) (dq tL6 62 rfl) (dq tL6 63 rfl) rfl ?_
  refine l_call (As := [vI (fz f i 1), vI (fz f i 2), vI (fz f i 3)]) (rest := []) hx (ctX9_repaid Γ M (fz f i 1) (rI _).1 (rI _).2 (fz f i 2) (rI _).1 (rI _).2 (fz f i 3) (rI _).1 (rI _).2 h.gd) mlL_171 (obX9 (by decide)) (dq tL6 64 rfl) rfl (Nat.le_of_ble_eq_true rfl) (Nat.le_of_ble_eq_true rfl) (Nat.le_of_ble_eq_true rfl) rfl (fun z1 M1 hzz1 p1 => ?_)
  have e1 : M = M1 := p1
  subst e1
  refine l_pop hx (dq tL6 65 rfl) rfl ?_
  refine l_m hx (dq tL6 66 rfl) rfl ?_
  refine l_arg hx 1 (by decide) (by decide) h0 hi (dq tL6 67 rfl) (dq tL6 68 rfl) (dq tL6 69 rfl) (dq tL6 70 rfl) (dq tL6 71 rfl) rfl ?_
  refine l_arg hx 2 (by decide) (by decide) h0 hi (dq tL6 72 rfl) (dq tL6 73 rfl) (dq tL6 74 rfl) (dq tL6 75 rfl) (dq tL6 76 rfl) rfl ?_
  refine l_arg hx 3 (by decide) (by decide) h0 hi (dq tL6 77 rfl) (dq tL6 78 rfl) (dq tL6 79 rfl) (dq tL6 80 rfl) (dq tL6 81 rfl) rfl ?_
  refine l_call (As := [vI (fz f i 1), vI (fz f i 2), vI (fz f i 3)]) (rest := []) hx (ctX10_repaid Γ M (fz f i 1) (rI _).1 (rI _).2 (fz f i 2) (rI _).1 (rI _).2 (fz f i 3) (rI _).1 (rI _).2 h.gm h.rl) mlL_174 (obX10 (by decide)) (dq tL6 82 rfl) rfl (Nat.le_of_ble_eq_true rfl) (Nat.le_of_ble_eq_true rfl) (Nat.le_of_ble_eq_true rfl) rfl (fun z2 M2 hzz2 p2 => ?_)
  refine l_pop hx (dq tL6 83 rfl) rfl ?_
  refine l_goto (n := 1566) hx (dq tL6 84 rfl) (by decide) ?_
  have e2 : M = M2 := p2
  subst e2
  exact kk _ h r

set_option maxHeartbeats 4000000 in
theorem law_seed {Γ : Gam} {x : Cx} {b L : Nat} {f : Nat → Int32} {M : zM} {i : Int} (hx : OkL Γ x b L f) (h : Inv M) (r : RelC M) (h0 : 0 ≤ i) (hi : i + 6 ≤ L) (kk : ∀ M', Inv M' → RelC M' → GL Γ x b M' 1566 i []) : GL Γ x b M 1421 i [] := by
  refine l_x hx (dq tL6 85 rfl) rfl ?_
  refine l_arg hx 1 (by decide) (by decide) h0 hi (dq tL6 86 rfl) (dq tL6 87 rfl) (dq tL6 88 rfl) (dq tL6 89 rfl) (dq tL6 90 rfl) rfl ?_
  refine l_call (As := [vI (fz f i 1)]) (rest := []) hx (ctX9_seed Γ M (fz f i 1) (rI _).1 (rI _).2 h.gd) mlL_175 (obX9 (by decide)) (dq tL6 91 rfl) rfl (Nat.le_of_ble_eq_true rfl) (Nat.le_of_ble_eq_true rfl) (Nat.le_of_ble_eq_true rfl) rfl (fun z1 M1 hzz1 p1 => ?_)
  have r1 : RelC M1 := r.cls (fun u v q => p1.1 u v (by omega))
  refine l_pop hx (dq tL6 92 rfl) rfl ?_
  refine l_m hx (dq tL6 93 rfl) rfl ?_
  refine l_arg hx 1 (by decide) (by decide) h0 hi (dq tL6 94 rfl) (dq tL6 95 rfl) (dq tL6 96 rfl) (dq tL6 97 rfl) (dq tL6 98 rfl) rfl ?_
  refine l_call (As := [vI (fz f i 1)]) (rest := []) hx (ctX10_seed Γ M1 (fz f i 1) (rI _).1 (rI _).2) mlL_178 (obX10 (by decide)) (dq tL6 99 rfl) rfl (Nat.le_of_ble_eq_true rfl) (Nat.le_of_ble_eq_true rfl) (Nat.le_of_ble_eq_true rfl) rfl (fun z2 M2 hzz2 p2 => ?_)
  refine l_pop hx (dq tL6 100 rfl) rfl ?_
  refine l_goto (n := 1566) hx (dq tL6 101 rfl) (by decide) ?_
  exact kk M2 (h.seed p1 p2).2 (r1.ref (fun u v q => p2.1 u v (by omega)) (SmB.of (fun u v q => p2.1 u v (by omega))) (fun j _ => p2.1 (229 + 56) j (by omega)) (fun k _ => p2.1 (229 + 57) k (by omega)))

set_option maxHeartbeats 4000000 in
theorem law_drawn {Γ : Gam} {x : Cx} {b L : Nat} {f : Nat → Int32} {M : zM} {i : Int} (hx : OkL Γ x b L f) (h : Inv M) (r : RelC M) (h0 : 0 ≤ i) (hi : i + 6 ≤ L) (kk : ∀ M', Inv M' → RelC M' → GL Γ x b M' 1566 i []) : GL Γ x b M 1444 i [] := by
  refine l_x hx (dq tL6 102 rfl) rfl ?_
  refine l_arg hx 1 (by decide) (by decide) h0 hi (dq tL6 103 rfl) (dq tL6 104 rfl) (dq tL6 105 rfl) (dq tL6 106 rfl) (dq tL6 107 rfl) rfl ?_
  refine l_arg hx 2 (by decide) (by decide) h0 hi (dq tL6 108 rfl) (dq tL6 109 rfl) (dq tL6 110 rfl) (dq tL6 111 rfl) (dq tL6 112 rfl) rfl ?_
  refine l_arg hx 3 (by decide) (by decide) h0 hi (dq tL6 113 rfl) (dq tL6 114 rfl) (dq tL6 115 rfl) (dq tL6 116 rfl) (dq tL6 117 rfl) rfl ?_
  refine l_arg hx 4 (by decide) (by decide) h0 hi (dq tL6 118 rfl) (dq tL6 119 rfl) (dq tL6 120 rfl) (dq tL6 121 rfl) (dq tL6 122 rfl) rfl ?_
  refine l_call (As := [vI (fz f i 1), vI (fz f i 2), vI (fz f i 3), vI (fz f i 4)]) (rest := []) hx (ctX9_drawn Γ M (fz f i 1) (rI _).1 (rI _).2 (fz f i 2) (rI _).1 (rI _).2 (fz f i 3) (rI _).1 (rI _).2 (fz f i 4) (rI _).1 (rI _).2 h.gd) mlL_179 (obX9 (by decide)) (dq tL6 123 rfl) rfl (Nat.le_of_ble_eq_true rfl) (Nat.le_of_ble_eq_true rfl) (Nat.le_of_ble_eq_true rfl) rfl (fun z1 M1 hzz1 p1 => ?_)
  have h1 : Inv M1 := h.cls (fun u v q => p1.1 u v (by omega)) p1.2
  have r1 : RelC M1 := r.cls (fun u v q => p1.1 u v (by omega))
  refine l_pop hx (dq tL6 124 rfl) rfl ?_
  refine l_m hx (dq tL6 125 rfl) rfl ?_
  refine l_arg hx 1 (by decide) (by decide) h0 hi (dq tL6 126 rfl) (dq tL6 127 rfl) (dq tL6 128 rfl) (dq tL6 129 rfl) (dq tL6 130 rfl) rfl ?_
  refine l_arg hx 2 (by decide) (by decide) h0 hi (dq tL6 131 rfl) (dq tL6 132 rfl) (dq tL6 133 rfl) (dq tL6 134 rfl) (dq tL6 135 rfl) rfl ?_
  refine l_arg hx 3 (by decide) (by decide) h0 hi (dq tL6 136 rfl) (dq tL6 137 rfl) (dq tL6 138 rfl) (dq tL6 139 rfl) (dq tL6 140 rfl) rfl ?_
  refine l_arg hx 4 (by decide) (by decide) h0 hi (dq tL6 141 rfl) (dq tL6 142 rfl) (dq tL6 143 rfl) (dq tL6 144 rfl) (dq tL6 145 rfl) rfl ?_
  refine l_call (As := [vI (fz f i 1), vI (fz f i 2), vI (fz f i 3), vI (fz f i 4)]) (rest := []) hx (ctX10_drawn Γ M1 (fz f i 1) (rI _).1 (rI _).2 (fz f i 2) (rI _).1 (rI _).2 (fz f i 3) (rI _).1 (rI _).2 (fz f i 4) (rI _).1 (rI _).2 h1.dy h1.gm h1.rl h1.on) mlL_183 (obX10 (by decide)) (dq tL6 146 rfl) rfl (Nat.le_of_ble_eq_true rfl) (Nat.le_of_ble_eq_true rfl) (Nat.le_of_ble_eq_true rfl) rfl (fun z2 M2 hzz2 p2 => ?_)
  refine l_pop hx (dq tL6 147 rfl) rfl ?_
  refine l_goto (n := 1566) hx (dq tL6 148 rfl) (by decide) ?_
  exact kk M2 (h1.ref (fun u v q => p2.1 u v (by omega)) p2.2.1 p2.2.2.1 p2.2.2.2.1 (h1.im.frame (fun c j q => by
    rcases q with ⟨rfl, rfl⟩ | ⟨rfl, q⟩ | rfl
    · exact p2.1 229 41 (by omega)
    · exact p2.2.2.2.2.2 j q
    · exact p2.1 (229 + 57) j (by omega))) (by rw [p2.2.2.2.2.1 (229 + 1) 7 (by omega) (by omega) (by decide)]; exact h1.dy) (p2.2.2.2.2.1 (229 + 1) 16 (by omega) (by omega) (by decide)) (fun k _ => p2.1 (229 + 57) k (by omega)) p2.2.2.2.2.2) (r1.ref (fun u v q => p2.1 u v (by omega)) (Sm.b p2.2.2.2.2.1) p2.2.2.2.2.2 (fun k _ => p2.1 (229 + 57) k (by omega)))

set_option maxHeartbeats 4000000 in
theorem law_count {Γ : Gam} {x : Cx} {b L : Nat} {f : Nat → Int32} {M : zM} {i : Int} (hx : OkL Γ x b L f) (h : Inv M) (r : RelC M) (h0 : 0 ≤ i) (hi : i + 6 ≤ L) (kk : ∀ M', Inv M' → RelC M' → GL Γ x b M' 1566 i []) : GL Γ x b M 1497 i [] := by
  refine l_x hx (dq tL6 149 rfl) rfl ?_
  refine l_arg hx 1 (by decide) (by decide) h0 hi (dq tL7 0 rfl) (dq tL7 1 rfl) (dq tL7 2 rfl) (dq tL7 3 rfl) (dq tL7 4 rfl) rfl ?_
  refine l_call (As := [vI (fz f i 1)]) (rest := []) hx (ctX9_count Γ M (fz f i 1) (rI _).1 (rI _).2 h.gd) mlL_184 (obX9 (by decide)) (dq tL7 5 rfl) rfl (Nat.le_of_ble_eq_true rfl) (Nat.le_of_ble_eq_true rfl) (Nat.le_of_ble_eq_true rfl) rfl (fun z1 M1 hzz1 p1 => ?_)
  have e1 : M = M1 := p1
  subst e1
  refine l_pop hx (dq tL7 6 rfl) rfl ?_
  refine l_m hx (dq tL7 7 rfl) rfl ?_
  refine l_arg hx 1 (by decide) (by decide) h0 hi (dq tL7 8 rfl) (dq tL7 9 rfl) (dq tL7 10 rfl) (dq tL7 11 rfl) (dq tL7 12 rfl) rfl ?_
  refine l_call (As := [vI (fz f i 1)]) (rest := []) hx (ctX10_count Γ M (fz f i 1) (rI _).1 (rI _).2) mlL_187 (obX10 (by decide)) (dq tL7 13 rfl) rfl (Nat.le_of_ble_eq_true rfl) (Nat.le_of_ble_eq_true rfl) (Nat.le_of_ble_eq_true rfl) rfl (fun z2 M2 hzz2 p2 => ?_)
  refine l_pop hx (dq tL7 14 rfl) rfl ?_
  refine l_goto (n := 1566) hx (dq tL7 15 rfl) (by decide) ?_
  have e2 : M = M2 := p2
  subst e2
  exact kk _ h r

set_option maxHeartbeats 4000000 in
theorem law_image {Γ : Gam} {x : Cx} {b L : Nat} {f : Nat → Int32} {M : zM} {i : Int} (hx : OkL Γ x b L f) (h : Inv M) (r : RelC M) (h0 : 0 ≤ i) (hi : i + 6 ≤ L) (kk : ∀ M', Inv M' → RelC M' → GL Γ x b M' 1566 i []) : GL Γ x b M 1520 i [] := by
  refine l_x hx (dq tL7 16 rfl) rfl ?_
  refine l_arg hx 1 (by decide) (by decide) h0 hi (dq tL7 17 rfl) (dq tL7 18 rfl) (dq tL7 19 rfl) (dq tL7 20 rfl) (dq tL7 21 rfl) rfl ?_
  refine l_call (As := [vI (fz f i 1)]) (rest := []) hx (ctX9_image2 Γ M (fz f i 1) (rI _).1 (rI _).2 h.gd) mlL_188 (obX9 (by decide)) (dq tL7 22 rfl) rfl (Nat.le_of_ble_eq_true rfl) (Nat.le_of_ble_eq_true rfl) (Nat.le_of_ble_eq_true rfl) rfl (fun z1 M1 hzz1 p1 => ?_)
  refine l_pop hx (dq tL7 23 rfl) rfl ?_
  refine l_iv (fun hI => ?_)
  refine l_m hx (dq tL7 24 rfl) rfl ?_
  refine l_arg hx 1 (by decide) (by decide) h0 hi (dq tL7 25 rfl) (dq tL7 26 rfl) (dq tL7 27 rfl) (dq tL7 28 rfl) (dq tL7 29 rfl) rfl ?_
  refine l_call (As := [vI (fz f i 1)]) (rest := []) hx (ctX10_image3 Γ M1 (fz f i 1) (rI _).1 (rI _).2) mlL_191 (obX10 (by decide)) (dq tL7 30 rfl) rfl (Nat.le_of_ble_eq_true rfl) (Nat.le_of_ble_eq_true rfl) (Nat.le_of_ble_eq_true rfl) rfl (fun z2 M2 hzz2 p2 => ?_)
  have hz := rel_image r p1 p2
  refine l_pop hx (dq tL7 31 rfl) rfl ?_
  refine l_goto (n := 1566) hx (dq tL7 32 rfl) (by decide) ?_
  exact kk M2 (h.image hI p1 p2) hz.2

set_option maxHeartbeats 4000000 in
theorem law_back {Γ : Gam} {x : Cx} {b L : Nat} {f : Nat → Int32} {M : zM} {i : Int} (hx : OkL Γ x b L f) (h : Inv M) (r : RelC M) (h0 : 0 ≤ i) (hi : i + 6 ≤ L) (kk : ∀ M', Inv M' → RelC M' → GL Γ x b M' 1566 i []) : GL Γ x b M 1543 i [] := by
  refine l_iv (fun hI => ?_)
  refine l_x hx (dq tL7 33 rfl) rfl ?_
  refine l_arg hx 1 (by decide) (by decide) h0 hi (dq tL7 34 rfl) (dq tL7 35 rfl) (dq tL7 36 rfl) (dq tL7 37 rfl) (dq tL7 38 rfl) rfl ?_
  refine l_call (As := [vI (fz f i 1)]) (rest := []) hx (ctX9_back3 Γ M (fz f i 1) (rI _).1 (rI _).2 h.gd h.io) mlL_192 (obX9 (by decide)) (dq tL7 39 rfl) rfl (Nat.le_of_ble_eq_true rfl) (Nat.le_of_ble_eq_true rfl) (Nat.le_of_ble_eq_true rfl) rfl (fun z1 M1 hzz1 p1 => ?_)
  have im1 : ImR M1 := h.im.frame (fun c j q => p1.1 c j (by omega))
  refine l_m hx (dq tL7 40 rfl) rfl ?_
  refine l_arg hx 1 (by decide) (by decide) h0 hi (dq tL7 41 rfl) (dq tL7 42 rfl) (dq tL7 43 rfl) (dq tL7 44 rfl) (dq tL7 45 rfl) rfl ?_
  refine l_call (As := [vI (fz f i 1)]) (rest := [vI z1]) hx (ctX10_back3 Γ M1 (fz f i 1) (rI _).1 (rI _).2 im1) mlL_195 (obX10 (by decide)) (dq tL7 46 rfl) rfl (Nat.le_of_ble_eq_true rfl) (Nat.le_of_ble_eq_true rfl) (Nat.le_of_ble_eq_true rfl) rfl (fun z2 M2 hzz2 p2 => ?_)
  have hz := rel_back hI h r p1 p2
  refine l_eq (n := 1566) hx (dq tL7 47 rfl) (by decide) hz.1 ?_
  exact kk M2 (h.back hI p1 p2) hz.2
