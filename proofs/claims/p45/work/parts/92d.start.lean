theorem nst_at : nst = [30, 67, 168, 196, 203, 285, 395, 400, 402, 404, 573, 587, 1121].filterMap (fun i => tables_1[i]?) := by decide +kernel
theorem nst_in : ∀ w ∈ nst, w ∈ lw_tbl := by
  intro w hw
  rw [nst_at] at hw
  obtain ⟨i, -, hi⟩ := List.mem_filterMap.mp hw
  exact List.mem_append_right _ (List.mem_of_getElem? hi)
theorem ao_166 : (Cond.arrayOver (.object "RaftForest$Rule") : Cond) ∈ lw_tbl := List.mem_append_right _ (List.mem_of_getElem? (i := 166) (by decide +kernel))
theorem ao_393 : (Cond.arrayOver (.object "RaftForest$Image") : Cond) ∈ lw_tbl := List.mem_append_right _ (List.mem_of_getElem? (i := 393) (by decide +kernel))
theorem ls_cs : (Cond.laysStatic "java/lang/String" "COMPACT_STRINGS" "Z" : Cond) ∈ lw_tbl := List.mem_append_right _ (List.mem_of_getElem? (i := 505) (by decide +kernel))
theorem ls_sf : (Cond.laysStatic "jdk/internal/util/Preconditions" "SIOOBE_FORMATTER" "Ljava/util/function/BiFunction;" : Cond) ∈ lw_tbl := List.mem_append_right _ (List.mem_of_getElem? (i := 521) (by decide +kernel))
theorem in_sf : (Cond.initialized "jdk/internal/util/Preconditions" : Cond) ∈ lw_tbl := List.mem_append_right _ (List.mem_of_getElem? (i := 15) (by decide +kernel))
theorem fl_cs : (Cond.eq (.static "java/lang/String" "COMPACT_STRINGS" "Z") (.int 1) : Cond) ∈ flat1 := by decide +kernel
theorem fl_sf : (Cond.isRef (.static "jdk/internal/util/Preconditions" "SIOOBE_FORMATTER" "Ljava/util/function/BiFunction;") : Cond) ∈ flat1 := by decide +kernel
set_option maxHeartbeats 4000000 in
set_option maxRecDepth 100000 in
theorem start_facts {s : State} {args : Array Value} (hts : ∀ w ∈ lw_tbl, w.before args s = true) (hgv : (Jvm.Cond.and given_1 narrow_1).before args s = true) : ∃ (D : va_G) (k : Nat → ClassId) (sd : Nat → Nat), va_K D vwCl (TY k) s ∧ EX s ∧ SX sd (fun q : Nat => s.heap.size ≤ q) s s.heap := by
  have hw : ∀ w ∈ wsB, w.before args s = true := fun w h => hts w (wB_in w h)
  have hs := flat_of_before _ hgv
  obtain ⟨c0, i0, hk0⟩ := u_known (C := RX0) (T := TX0) (N := 17) (n := 17) hw inlX0 (hw _ wd_284)
  obtain ⟨c1, i1, hk1⟩ := u_known (C := RX1) (T := TX1) (N := 4) (n := 4) hw inlX1 (hw _ wd_394)
  obtain ⟨c2, i2, hk2⟩ := u_known (C := RX2) (T := TX2) (N := 12) (n := 12) hw inlX2 (hw _ wd_66)
  obtain ⟨c3, i3, hk3⟩ := u_known (C := RX3) (T := TX3) (N := 3) (n := 3) hw inlX3 (hw _ wd_60)
  obtain ⟨c4, i4, hk4⟩ := u_known (C := RX4) (T := TX4) (N := 6) (n := 6) hw inlX4 (hw _ wd_167)
  obtain ⟨c5, i5, hk5⟩ := u_known (C := RX5) (T := TX5) (N := 2) (n := 2) hw inlX5 (hw _ wd_153)
  obtain ⟨c6, i6, hk6⟩ := u_known (C := RX6) (T := TX6) (N := 15) (n := 15) hw inlX6 (hw _ wd_202)
  obtain ⟨c7, i7, hk7⟩ := u_known (C := RX7) (T := TX7) (N := 6) (n := 6) hw inlX7 (hw _ wd_29)
  obtain ⟨c8, i8, hk8⟩ := u_known (C := RX8) (T := TX8) (N := 9) (n := 9) hw inlX8 (hw _ wd_194)
  obtain ⟨c9, i9, hk9⟩ := u_known (C := RX9) (T := TX9) (N := 12) (n := 12) hw inlX9 (hw _ wd_21)
  obtain ⟨c10, i10, hk10⟩ := u_known (C := RX10) (T := TX10) (N := 80) (n := 80) hw inlX10 (hw _ wd_1131)
  obtain ⟨a0, ha0, hb0⟩ := arr_P (hw _ wd_58)
  obtain ⟨a1, ha1, hb1⟩ := arr_P (hw _ wd_192)
  obtain ⟨a2, ha2, hb2⟩ := arr_P (hw _ wd_1376)
  obtain ⟨a5, ha5, hb5⟩ := arr_P (hw _ wd_598)
  have hE : EX s := by
    refine ⟨fun w hw => ?_, va_AO.of (hts _ ao_166), va_AO.of (hts _ ao_393)⟩
    have h1 := hts w (nst_in w hw)
    obtain ⟨a, i, x, hh, e⟩ := nst_isM w hw
    subst e
    exact va_Nw.of rfl h1
  obtain ⟨a3, ha3⟩ := arr_Q hE.2.1
  obtain ⟨a4, ha4⟩ := arr_Q hE.2.2
  have hA : ∀ a : Nat, a < s.heap.size → ¬ (fun q : Nat => s.heap.size ≤ q) a := fun a h => Nat.not_le.mpr h
  obtain ⟨q0, hr0, hl0⟩ := str_one sb_0 (by decide) (hts _ sr_0) (hs _ se_0) (hs _ sc_0) (hs _ sa_0) (hs _ sl_0) (fun j hj => hs _ (sm_0 j hj)) hA
  obtain ⟨q1, hr1, hl1⟩ := str_one sb_1 (by decide) (hts _ sr_1) (hs _ se_1) (hs _ sc_1) (hs _ sa_1) (hs _ sl_1) (fun j hj => hs _ (sm_1 j hj)) hA
  obtain ⟨q2, hr2, hl2⟩ := str_one sb_2 (by decide) (hts _ sr_2) (hs _ se_2) (hs _ sc_2) (hs _ sa_2) (hs _ sl_2) (fun j hj => hs _ (sm_2 j hj)) hA
  obtain ⟨q3, hr3, hl3⟩ := str_one sb_3 (by decide) (hts _ sr_3) (hs _ se_3) (hs _ sc_3) (hs _ sa_3) (hs _ sl_3) (fun j hj => hs _ (sm_3 j hj)) hA
  obtain ⟨q4, hr4, hl4⟩ := str_one sb_4 (by decide) (hts _ sr_4) (hs _ se_4) (hs _ sc_4) (hs _ sa_4) (hs _ sl_4) (fun j hj => hs _ (sm_4 j hj)) hA
  obtain ⟨q5, hr5, hl5⟩ := str_one sb_5 (by decide) (hts _ sr_5) (hs _ se_5) (hs _ sc_5) (hs _ sa_5) (hs _ sl_5) (fun j hj => hs _ (sm_5 j hj)) hA
  obtain ⟨q6, hr6, hl6⟩ := str_one sb_6 (by decide) (hts _ sr_6) (hs _ se_6) (hs _ sc_6) (hs _ sa_6) (hs _ sl_6) (fun j hj => hs _ (sm_6 j hj)) hA
  obtain ⟨q7, hr7, hl7⟩ := str_one sb_7 (by decide) (hts _ sr_7) (hs _ se_7) (hs _ sc_7) (hs _ sa_7) (hs _ sl_7) (fun j hj => hs _ (sm_7 j hj)) hA
  obtain ⟨q8, hr8, hl8⟩ := str_one sb_8 (by decide) (hts _ sr_8) (hs _ se_8) (hs _ sc_8) (hs _ sa_8) (hs _ sl_8) (fun j hj => hs _ (sm_8 j hj)) hA
  obtain ⟨q9, hr9, hl9⟩ := str_one sb_9 (by decide) (hts _ sr_9) (hs _ se_9) (hs _ sc_9) (hs _ sa_9) (hs _ sl_9) (fun j hj => hs _ (sm_9 j hj)) hA
  obtain ⟨q10, hr10, hl10⟩ := str_one sb_10 (by decide) (hts _ sr_10) (hs _ se_10) (hs _ sc_10) (hs _ sa_10) (hs _ sl_10) (fun j hj => hs _ (sm_10 j hj)) hA
  obtain ⟨q11, hr11, hl11⟩ := str_one sb_11 (by decide) (hts _ sr_11) (hs _ se_11) (hs _ sc_11) (hs _ sa_11) (hs _ sl_11) (fun j hj => hs _ (sm_11 j hj)) hA
  obtain ⟨q12, hr12, hl12⟩ := str_one sb_12 (by decide) (hts _ sr_12) (hs _ se_12) (hs _ sc_12) (hs _ sa_12) (hs _ sl_12) (fun j hj => hs _ (sm_12 j hj)) hA
  obtain ⟨q13, hr13, hl13⟩ := str_one sb_13 (by decide) (hts _ sr_13) (hs _ se_13) (hs _ sc_13) (hs _ sa_13) (hs _ sl_13) (fun j hj => hs _ (sm_13 j hj)) hA
  obtain ⟨q14, hr14, hl14⟩ := str_one sb_14 (by decide) (hts _ sr_14) (hs _ se_14) (hs _ sc_14) (hs _ sa_14) (hs _ sl_14) (fun j hj => hs _ (sm_14 j hj)) hA
  obtain ⟨q15, hr15, hl15⟩ := str_one sb_15 (by decide) (hts _ sr_15) (hs _ se_15) (hs _ sc_15) (hs _ sa_15) (hs _ sl_15) (fun j hj => hs _ (sm_15 j hj)) hA
  obtain ⟨q16, hr16, hl16⟩ := str_one sb_16 (by decide) (hts _ sr_16) (hs _ se_16) (hs _ sc_16) (hs _ sa_16) (hs _ sl_16) (fun j hj => hs _ (sm_16 j hj)) hA
  obtain ⟨q17, hr17, hl17⟩ := str_one sb_17 (by decide) (hts _ sr_17) (hs _ se_17) (hs _ sc_17) (hs _ sa_17) (hs _ sl_17) (fun j hj => hs _ (sm_17 j hj)) hA
  obtain ⟨q18, hr18, hl18⟩ := str_one sb_18 (by decide) (hts _ sr_18) (hs _ se_18) (hs _ sc_18) (hs _ sa_18) (hs _ sl_18) (fun j hj => hs _ (sm_18 j hj)) hA
  obtain ⟨q19, hr19, hl19⟩ := str_one sb_19 (by decide) (hts _ sr_19) (hs _ se_19) (hs _ sc_19) (hs _ sa_19) (hs _ sl_19) (fun j hj => hs _ (sm_19 j hj)) hA
  obtain ⟨q20, hr20, hl20⟩ := str_one sb_20 (by decide) (hts _ sr_20) (hs _ se_20) (hs _ sc_20) (hs _ sa_20) (hs _ sl_20) (fun j hj => hs _ (sm_20 j hj)) hA
  obtain ⟨q21, hr21, hl21⟩ := str_one sb_21 (by decide) (hts _ sr_21) (hs _ se_21) (hs _ sc_21) (hs _ sa_21) (hs _ sl_21) (fun j hj => hs _ (sm_21 j hj)) hA
  obtain ⟨q22, hr22, hl22⟩ := str_one sb_22 (by decide) (hts _ sr_22) (hs _ se_22) (hs _ sc_22) (hs _ sa_22) (hs _ sl_22) (fun j hj => hs _ (sm_22 j hj)) hA
  obtain ⟨q23, hr23, hl23⟩ := str_one sb_23 (by decide) (hts _ sr_23) (hs _ se_23) (hs _ sc_23) (hs _ sa_23) (hs _ sl_23) (fun j hj => hs _ (sm_23 j hj)) hA
  obtain ⟨q24, hr24, hl24⟩ := str_one sb_24 (by decide) (hts _ sr_24) (hs _ se_24) (hs _ sc_24) (hs _ sa_24) (hs _ sl_24) (fun j hj => hs _ (sm_24 j hj)) hA
  obtain ⟨q25, hr25, hl25⟩ := str_one sb_25 (by decide) (hts _ sr_25) (hs _ se_25) (hs _ sc_25) (hs _ sa_25) (hs _ sl_25) (fun j hj => hs _ (sm_25 j hj)) hA
  obtain ⟨q26, hr26, hl26⟩ := str_one sb_26 (by decide) (hts _ sr_26) (hs _ se_26) (hs _ sc_26) (hs _ sa_26) (hs _ sl_26) (fun j hj => hs _ (sm_26 j hj)) hA
  obtain ⟨q27, hr27, hl27⟩ := str_one sb_27 (by decide) (hts _ sr_27) (hs _ se_27) (hs _ sc_27) (hs _ sa_27) (hs _ sl_27) (fun j hj => hs _ (sm_27 j hj)) hA
  obtain ⟨q28, hr28, hl28⟩ := str_one sb_28 (by decide) (hts _ sr_28) (hs _ se_28) (hs _ sc_28) (hs _ sa_28) (hs _ sl_28) (fun j hj => hs _ (sm_28 j hj)) hA
  obtain ⟨q29, hr29, hl29⟩ := str_one sb_29 (by decide) (hts _ sr_29) (hs _ se_29) (hs _ sc_29) (hs _ sa_29) (hs _ sl_29) (fun j hj => hs _ (sm_29 j hj)) hA
  obtain ⟨q30, hr30, hl30⟩ := str_one sb_30 (by decide) (hts _ sr_30) (hs _ se_30) (hs _ sc_30) (hs _ sa_30) (hs _ sl_30) (fun j hj => hs _ (sm_30 j hj)) hA
  obtain ⟨q31, hr31, hl31⟩ := str_one sb_31 (by decide) (hts _ sr_31) (hs _ se_31) (hs _ sc_31) (hs _ sa_31) (hs _ sl_31) (fun j hj => hs _ (sm_31 j hj)) hA
  refine ⟨(fun j => [c0, c1, c2, c3, c4, c5, c6, c7, c8, c9, c10].getD j c0, fun j => [i0, i1, i2, i3, i4, i5, i6, i7, i8, i9, i10].getD j i0), fun j => [a0, a1, a2, a3, a4, a5].getD j a0, fun j => [q0.1, q0.2, q1.1, q1.2, q2.1, q2.2, q3.1, q3.2, q4.1, q4.2, q5.1, q5.2, q6.1, q6.2, q7.1, q7.2, q8.1, q8.2, q9.1, q9.2, q10.1, q10.2, q11.1, q11.2, q12.1, q12.2, q13.1, q13.2, q14.1, q14.2, q15.1, q15.2, q16.1, q16.2, q17.1, q17.2, q18.1, q18.2, q19.1, q19.2, q20.1, q20.2, q21.1, q21.2, q22.1, q22.2, q23.1, q23.2, q24.1, q24.2, q25.1, q25.2, q26.1, q26.2, q27.1, q27.2, q28.1, q28.2, q29.1, q29.2, q30.1, q30.2, q31.1, q31.2].getD j 0, ⟨?_, ?_⟩, hE, ⟨⟨?_, ?_⟩, ?_⟩⟩
  · intro j q hq
    match j, hq with
    | 0, hq => cases hq; exact hk0
    | 1, hq => cases hq; exact hk1
    | 2, hq => cases hq; exact hk2
    | 3, hq => cases hq; exact hk3
    | 4, hq => cases hq; exact hk4
    | 5, hq => cases hq; exact hk5
    | 6, hq => cases hq; exact hk6
    | 7, hq => cases hq; exact hk7
    | 8, hq => cases hq; exact hk8
    | 9, hq => cases hq; exact hk9
    | 10, hq => cases hq; exact hk10
    | j + 11, hq => simp [vwCl] at hq
  · intro j q hq
    match j, hq with
    | 0, hq => cases hq; exact ⟨ha0, hb0⟩
    | 1, hq => cases hq; exact ⟨ha1, hb1⟩
    | 2, hq => cases hq; exact ⟨ha2, hb2⟩
    | 3, hq => cases hq; exact ha3
    | 4, hq => cases hq; exact ha4
    | 5, hq => cases hq; exact ⟨ha5, hb5⟩
    | j + 6, hq => simp [TY] at hq
  · exact va_Zof (hts _ ls_cs) (hw _ wd_13) (va_eqi (hs _ fl_cs)) hA
  · exact va_Zqof (hts _ ls_sf) (hts _ in_sf) (hs _ fl_sf) hA
  · intro j r hq
    match j, hq with
    | 0, hq => cases hq; exact ⟨hr0, hl0⟩
    | 1, hq => cases hq; exact ⟨hr1, hl1⟩
    | 2, hq => cases hq; exact ⟨hr2, hl2⟩
    | 3, hq => cases hq; exact ⟨hr3, hl3⟩
    | 4, hq => cases hq; exact ⟨hr4, hl4⟩
    | 5, hq => cases hq; exact ⟨hr5, hl5⟩
    | 6, hq => cases hq; exact ⟨hr6, hl6⟩
    | 7, hq => cases hq; exact ⟨hr7, hl7⟩
    | 8, hq => cases hq; exact ⟨hr8, hl8⟩
    | 9, hq => cases hq; exact ⟨hr9, hl9⟩
    | 10, hq => cases hq; exact ⟨hr10, hl10⟩
    | 11, hq => cases hq; exact ⟨hr11, hl11⟩
    | 12, hq => cases hq; exact ⟨hr12, hl12⟩
    | 13, hq => cases hq; exact ⟨hr13, hl13⟩
    | 14, hq => cases hq; exact ⟨hr14, hl14⟩
    | 15, hq => cases hq; exact ⟨hr15, hl15⟩
    | 16, hq => cases hq; exact ⟨hr16, hl16⟩
    | 17, hq => cases hq; exact ⟨hr17, hl17⟩
    | 18, hq => cases hq; exact ⟨hr18, hl18⟩
    | 19, hq => cases hq; exact ⟨hr19, hl19⟩
    | 20, hq => cases hq; exact ⟨hr20, hl20⟩
    | 21, hq => cases hq; exact ⟨hr21, hl21⟩
    | 22, hq => cases hq; exact ⟨hr22, hl22⟩
    | 23, hq => cases hq; exact ⟨hr23, hl23⟩
    | 24, hq => cases hq; exact ⟨hr24, hl24⟩
    | 25, hq => cases hq; exact ⟨hr25, hl25⟩
    | 26, hq => cases hq; exact ⟨hr26, hl26⟩
    | 27, hq => cases hq; exact ⟨hr27, hl27⟩
    | 28, hq => cases hq; exact ⟨hr28, hl28⟩
    | 29, hq => cases hq; exact ⟨hr29, hl29⟩
    | 30, hq => cases hq; exact ⟨hr30, hl30⟩
    | 31, hq => cases hq; exact ⟨hr31, hl31⟩
    | j + 32, hq => simp [sN] at hq
