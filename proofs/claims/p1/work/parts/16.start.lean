theorem wd_21 : (Cond.instantiable RX9 12 : Cond) ∈ wsB := wdT 21 (by decide +kernel) rfl
theorem wd_1131 : (Cond.instantiable RX10 80 : Cond) ∈ wsB := wdT 1131 (by decide +kernel) rfl
theorem wd_20 : (Cond.classLink RL 7 RX9 : Cond) ∈ wsB := wdT 20 (by decide +kernel) rfl
theorem wd_24 : (Cond.code yX9_init cX9_init 2 none : Cond) ∈ wsB := wdT 24 (by decide +kernel) rfl
theorem wd_22 : (Cond.methodLink RL 9 yX9_init : Cond) ∈ wsB := wdT 22 (by decide +kernel) rfl
theorem wd_23 : (Cond.instanceMethod yX9_init : Cond) ∈ wsB := wdT 23 (by decide +kernel) rfl
theorem wd_1130 : (Cond.classLink RL 10 RX10 : Cond) ∈ wsB := wdT 1130 (by decide +kernel) rfl
theorem wd_1134 : (Cond.code yX10_init cX10_init 1 none : Cond) ∈ wsB := wdT 1134 (by decide +kernel) rfl
theorem wd_1132 : (Cond.methodLink RL 12 yX10_init : Cond) ∈ wsB := wdT 1132 (by decide +kernel) rfl
theorem wd_1133 : (Cond.instanceMethod yX10_init : Cond) ∈ wsB := wdT 1133 (by decide +kernel) rfl
theorem dL_law_0 : decode cL_law 0 = .ok (.new 7, 3) := by decide +kernel
theorem dL_law_3 : decode cL_law 3 = .ok (.dup, 1) := by decide +kernel
theorem dL_law_4 : decode cL_law 4 = .ok (.invokespecial 9, 3) := by decide +kernel
theorem dL_law_7 : decode cL_law 7 = .ok (.astore_n 1, 1) := by decide +kernel
theorem dL_law_8 : decode cL_law 8 = .ok (.new 10, 3) := by decide +kernel
theorem dL_law_11 : decode cL_law 11 = .ok (.dup, 1) := by decide +kernel
theorem dL_law_12 : decode cL_law 12 = .ok (.invokespecial 12, 3) := by decide +kernel
theorem dL_law_15 : decode cL_law 15 = .ok (.astore_n 2, 1) := by decide +kernel
theorem dL_law_16 : decode cL_law 16 = .ok (.iconst 0, 1) := by decide +kernel
theorem dL_law_17 : decode cL_law 17 = .ok (.istore_n 3, 1) := by decide +kernel
theorem dL_law_27 : decode cL_law 27 = .ok (.aload_n 0, 1) := by decide +kernel
theorem dL_law_28 : decode cL_law 28 = .ok (.iload_n 3, 1) := by decide +kernel
theorem dL_law_29 : decode cL_law 29 = .ok (.iaload, 1) := by decide +kernel
theorem dL_law_30 : decode cL_law 30 = .ok (.bipush 63, 2) := by decide +kernel
theorem dL_law_32 : decode cL_law 32 = .ok (.iand, 1) := by decide +kernel
theorem dL_law_33 : decode cL_law 33 = .ok (.tableswitch 1533 0 43 #[191, 254, 277, 290, 303, 326, 359, 392, 425, 458, 491, 524, 557, 600, 613, 636, 669, 692, 725, 758, 781, 804, 837, 860, 883, 906, 929, 952, 985, 1018, 1051, 1074, 1107, 1150, 1213, 1256, 1299, 1332, 1345, 1388, 1411, 1464, 1487, 1510], 191) := by decide +kernel
theorem arr_P {s : State} {args : Array Value} {ty : FieldType} (h : (Cond.arrayClass ty).before args s = true) : ∃ cA : ClassId, ArrOfT s cA ty ∧ s.vm.findClass ("[" ++ ty.toString) = some cA := by
  obtain ⟨cA, kA, comp, h1, h2, h3⟩ := Cond.arrayClass_spec h
  exact ⟨cA, fun n z => ⟨fun k h => (by cases h), kA, h2, comp, h3⟩, h1⟩
theorem arr_Q {s : State} {C : String} (h : va_AO C s) : ∃ cA : ClassId, ArrOfT s cA (.object C) ∧ va_RA s cA (.object C) := by
  obtain ⟨comp, cA, kA, h1, -, h2, h3, h4⟩ := Cond.arrayOver_spec h
  exact ⟨cA, fun n z => ⟨fun k h => (by cases h), kA, h2, comp, h3⟩, kA, comp, h2, h3, h1, h4⟩
theorem str_one {args : Array Value} {s : State} {A : Nat → Prop} {own tx : String} {i n : Nat} (byt : List Int32) (hN : n < 2 ^ 31) (h1 : (Cond.stringRef own i tx).before args s = true)
    (hex : (Cond.exactly (.string own i) "java/lang/String").before args s = true) (hco : (Cond.eq (.field (.string own i) "java/lang/String" "coder" "B") (.int 0)).before args s = true)
    (har : (Cond.arrayOf (.field (.string own i) "java/lang/String" "value" "[B") .byte).before args s = true) (hle : (Cond.eq (.length (.field (.string own i) "java/lang/String" "value" "[B")) (.int (Int32.ofNat n))).before args s = true)
    (hel : ∀ j : Nat, j < n → (Cond.eq (.elem (.field (.string own i) "java/lang/String" "value" "[B") (.int (Int32.ofNat j))) (.int (byt.getD j 0))).before args s = true) (hA : ∀ a : Nat, a < s.heap.size → ¬ A a) : ∃ q : Nat × Nat, vk_R own i tx q.1 s ∧ SL q.1 q.2 n A s s.heap := by
  obtain ⟨a, c, cA, kA, q1, q2, q3, q4, q5, q6, -⟩ := Cond.exactly_spec (args := args) (first := s) (o := none) (s := s) (idx := []) (t := .string own i) (cls := "java/lang/String") hex
  obtain ⟨t, ht, hT⟩ := va_Tof (f := fun j => .int (byt.getD j 0)) (A := A) hN har (va_eqt hle) (fun j hj => va_eqt (hel j hj)) hA
  exact ⟨(a, t), vk_R.of h1 q1, ⟨cA, q3, q5, by rw [q6]; exact q2, hA a (Array.getElem?_eq_some_iff.mp q3).1⟩, vk_OFof q1 (va_eqt hco) hA, vk_OFof q1 ht hA, _, hT⟩
abbrev flat1 : List Cond := flatC (Jvm.Cond.and given_1 narrow_1)

theorem nst_at : nst = [30, 67, 168, 196, 203, 285, 395, 400, 402, 404, 573, 587, 1121].filterMap (fun i => tables_1[i]?) := by decide +kernel
theorem nst_in : ∀ w ∈ nst, w ∈ lw_tbl := by
  intro w hw
  rw [nst_at] at hw
  obtain ⟨i, -, hi⟩ := List.mem_filterMap.mp hw
  exact List.mem_append_right _ (List.mem_of_getElem? hi)
theorem ao_166 : (Cond.arrayOver (.object "RaftForest$Rule") : Cond) ∈ lw_tbl := List.mem_append_right _ (List.mem_of_getElem? (i := 166) (by decide +kernel))
theorem ao_393 : (Cond.arrayOver (.object "RaftForest$Image") : Cond) ∈ lw_tbl := List.mem_append_right _ (List.mem_of_getElem? (i := 393) (by decide +kernel))
theorem ls_cs : (Cond.laysStatic "java/lang/String" "COMPACT_STRINGS" "Z" : Cond) ∈ lw_tbl := List.mem_append_right _ (List.mem_of_getElem? (i := 505) (by decide +kernel))
theorem fl_cs : (Cond.eq (.static "java/lang/String" "COMPACT_STRINGS" "Z") (.int 1) : Cond) ∈ flat1 := by decide +kernel
theorem sr_0 : (Cond.stringRef "RaftForest$RiverReader" 34 "river village width wood log toll" : Cond) ∈ lw_tbl := List.mem_append_right _ (List.mem_of_getElem? (i := 491) (by decide +kernel))
theorem se_0 : (Cond.exactly (.string "RaftForest$RiverReader" 34) "java/lang/String" : Cond) ∈ flat1 := by decide +kernel
theorem sc_0 : (Cond.eq (.field (.string "RaftForest$RiverReader" 34) "java/lang/String" "coder" "B") (.int 0) : Cond) ∈ flat1 := by decide +kernel
theorem sa_0 : (Cond.arrayOf (.field (.string "RaftForest$RiverReader" 34) "java/lang/String" "value" "[B") .byte : Cond) ∈ flat1 := by decide +kernel
theorem sl_0 : (Cond.eq (.length (.field (.string "RaftForest$RiverReader" 34) "java/lang/String" "value" "[B")) (.int (Int32.ofNat 33)) : Cond) ∈ flat1 := by decide +kernel
def sb_0 : List Int32 := [114, 105, 118, 101, 114, 32, 118, 105, 108, 108, 97, 103, 101, 32, 119, 105, 100, 116, 104, 32, 119, 111, 111, 100, 32, 108, 111, 103, 32, 116, 111, 108, 108]
theorem sm_0 : ∀ j : Nat, j < 33 → (Cond.eq (.elem (.field (.string "RaftForest$RiverReader" 34) "java/lang/String" "value" "[B") (.int (Int32.ofNat j))) (.int (sb_0.getD j 0)) : Cond) ∈ flat1 := by decide +kernel
theorem sr_1 : (Cond.stringRef "RaftForest$RuleReader" 29 "jam take add elect mine" : Cond) ∈ lw_tbl := List.mem_append_right _ (List.mem_of_getElem? (i := 612) (by decide +kernel))
theorem se_1 : (Cond.exactly (.string "RaftForest$RuleReader" 29) "java/lang/String" : Cond) ∈ flat1 := by decide +kernel
theorem sc_1 : (Cond.eq (.field (.string "RaftForest$RuleReader" 29) "java/lang/String" "coder" "B") (.int 0) : Cond) ∈ flat1 := by decide +kernel
theorem sa_1 : (Cond.arrayOf (.field (.string "RaftForest$RuleReader" 29) "java/lang/String" "value" "[B") .byte : Cond) ∈ flat1 := by decide +kernel
theorem sl_1 : (Cond.eq (.length (.field (.string "RaftForest$RuleReader" 29) "java/lang/String" "value" "[B")) (.int (Int32.ofNat 23)) : Cond) ∈ flat1 := by decide +kernel
def sb_1 : List Int32 := [106, 97, 109, 32, 116, 97, 107, 101, 32, 97, 100, 100, 32, 101, 108, 101, 99, 116, 32, 109, 105, 110, 101]
theorem sm_1 : ∀ j : Nat, j < 23 → (Cond.eq (.elem (.field (.string "RaftForest$RuleReader" 29) "java/lang/String" "value" "[B") (.int (Int32.ofNat j))) (.int (sb_1.getD j 0)) : Cond) ∈ flat1 := by decide +kernel
theorem sr_2 : (Cond.stringRef "RaftForestModel" 342 "river" : Cond) ∈ lw_tbl := List.mem_append_right _ (List.mem_of_getElem? (i := 1412) (by decide +kernel))
theorem se_2 : (Cond.exactly (.string "RaftForestModel" 342) "java/lang/String" : Cond) ∈ flat1 := by decide +kernel
theorem sc_2 : (Cond.eq (.field (.string "RaftForestModel" 342) "java/lang/String" "coder" "B") (.int 0) : Cond) ∈ flat1 := by decide +kernel
theorem sa_2 : (Cond.arrayOf (.field (.string "RaftForestModel" 342) "java/lang/String" "value" "[B") .byte : Cond) ∈ flat1 := by decide +kernel
theorem sl_2 : (Cond.eq (.length (.field (.string "RaftForestModel" 342) "java/lang/String" "value" "[B")) (.int (Int32.ofNat 5)) : Cond) ∈ flat1 := by decide +kernel
def sb_2 : List Int32 := [114, 105, 118, 101, 114]
theorem sm_2 : ∀ j : Nat, j < 5 → (Cond.eq (.elem (.field (.string "RaftForestModel" 342) "java/lang/String" "value" "[B") (.int (Int32.ofNat j))) (.int (sb_2.getD j 0)) : Cond) ∈ flat1 := by decide +kernel
theorem sr_3 : (Cond.stringRef "RaftForestModel" 231 "village" : Cond) ∈ lw_tbl := List.mem_append_right _ (List.mem_of_getElem? (i := 1413) (by decide +kernel))
theorem se_3 : (Cond.exactly (.string "RaftForestModel" 231) "java/lang/String" : Cond) ∈ flat1 := by decide +kernel
theorem sc_3 : (Cond.eq (.field (.string "RaftForestModel" 231) "java/lang/String" "coder" "B") (.int 0) : Cond) ∈ flat1 := by decide +kernel
theorem sa_3 : (Cond.arrayOf (.field (.string "RaftForestModel" 231) "java/lang/String" "value" "[B") .byte : Cond) ∈ flat1 := by decide +kernel
theorem sl_3 : (Cond.eq (.length (.field (.string "RaftForestModel" 231) "java/lang/String" "value" "[B")) (.int (Int32.ofNat 7)) : Cond) ∈ flat1 := by decide +kernel
def sb_3 : List Int32 := [118, 105, 108, 108, 97, 103, 101]
theorem sm_3 : ∀ j : Nat, j < 7 → (Cond.eq (.elem (.field (.string "RaftForestModel" 231) "java/lang/String" "value" "[B") (.int (Int32.ofNat j))) (.int (sb_3.getD j 0)) : Cond) ∈ flat1 := by decide +kernel
theorem sr_4 : (Cond.stringRef "RaftForestModel" 344 "width" : Cond) ∈ lw_tbl := List.mem_append_right _ (List.mem_of_getElem? (i := 1414) (by decide +kernel))
theorem se_4 : (Cond.exactly (.string "RaftForestModel" 344) "java/lang/String" : Cond) ∈ flat1 := by decide +kernel
theorem sc_4 : (Cond.eq (.field (.string "RaftForestModel" 344) "java/lang/String" "coder" "B") (.int 0) : Cond) ∈ flat1 := by decide +kernel
theorem sa_4 : (Cond.arrayOf (.field (.string "RaftForestModel" 344) "java/lang/String" "value" "[B") .byte : Cond) ∈ flat1 := by decide +kernel
theorem sl_4 : (Cond.eq (.length (.field (.string "RaftForestModel" 344) "java/lang/String" "value" "[B")) (.int (Int32.ofNat 5)) : Cond) ∈ flat1 := by decide +kernel
def sb_4 : List Int32 := [119, 105, 100, 116, 104]
theorem sm_4 : ∀ j : Nat, j < 5 → (Cond.eq (.elem (.field (.string "RaftForestModel" 344) "java/lang/String" "value" "[B") (.int (Int32.ofNat j))) (.int (sb_4.getD j 0)) : Cond) ∈ flat1 := by decide +kernel
theorem sr_5 : (Cond.stringRef "RaftForestModel" 225 "wood" : Cond) ∈ lw_tbl := List.mem_append_right _ (List.mem_of_getElem? (i := 1415) (by decide +kernel))
theorem se_5 : (Cond.exactly (.string "RaftForestModel" 225) "java/lang/String" : Cond) ∈ flat1 := by decide +kernel
theorem sc_5 : (Cond.eq (.field (.string "RaftForestModel" 225) "java/lang/String" "coder" "B") (.int 0) : Cond) ∈ flat1 := by decide +kernel
theorem sa_5 : (Cond.arrayOf (.field (.string "RaftForestModel" 225) "java/lang/String" "value" "[B") .byte : Cond) ∈ flat1 := by decide +kernel
theorem sl_5 : (Cond.eq (.length (.field (.string "RaftForestModel" 225) "java/lang/String" "value" "[B")) (.int (Int32.ofNat 4)) : Cond) ∈ flat1 := by decide +kernel
def sb_5 : List Int32 := [119, 111, 111, 100]
theorem sm_5 : ∀ j : Nat, j < 4 → (Cond.eq (.elem (.field (.string "RaftForestModel" 225) "java/lang/String" "value" "[B") (.int (Int32.ofNat j))) (.int (sb_5.getD j 0)) : Cond) ∈ flat1 := by decide +kernel
theorem sr_6 : (Cond.stringRef "RaftForestModel" 223 "log" : Cond) ∈ lw_tbl := List.mem_append_right _ (List.mem_of_getElem? (i := 1416) (by decide +kernel))
theorem se_6 : (Cond.exactly (.string "RaftForestModel" 223) "java/lang/String" : Cond) ∈ flat1 := by decide +kernel
theorem sc_6 : (Cond.eq (.field (.string "RaftForestModel" 223) "java/lang/String" "coder" "B") (.int 0) : Cond) ∈ flat1 := by decide +kernel
theorem sa_6 : (Cond.arrayOf (.field (.string "RaftForestModel" 223) "java/lang/String" "value" "[B") .byte : Cond) ∈ flat1 := by decide +kernel
theorem sl_6 : (Cond.eq (.length (.field (.string "RaftForestModel" 223) "java/lang/String" "value" "[B")) (.int (Int32.ofNat 3)) : Cond) ∈ flat1 := by decide +kernel
def sb_6 : List Int32 := [108, 111, 103]
theorem sm_6 : ∀ j : Nat, j < 3 → (Cond.eq (.elem (.field (.string "RaftForestModel" 223) "java/lang/String" "value" "[B") (.int (Int32.ofNat j))) (.int (sb_6.getD j 0)) : Cond) ∈ flat1 := by decide +kernel
theorem sr_7 : (Cond.stringRef "RaftForestModel" 345 "toll" : Cond) ∈ lw_tbl := List.mem_append_right _ (List.mem_of_getElem? (i := 1417) (by decide +kernel))
theorem se_7 : (Cond.exactly (.string "RaftForestModel" 345) "java/lang/String" : Cond) ∈ flat1 := by decide +kernel
theorem sc_7 : (Cond.eq (.field (.string "RaftForestModel" 345) "java/lang/String" "coder" "B") (.int 0) : Cond) ∈ flat1 := by decide +kernel
theorem sa_7 : (Cond.arrayOf (.field (.string "RaftForestModel" 345) "java/lang/String" "value" "[B") .byte : Cond) ∈ flat1 := by decide +kernel
theorem sl_7 : (Cond.eq (.length (.field (.string "RaftForestModel" 345) "java/lang/String" "value" "[B")) (.int (Int32.ofNat 4)) : Cond) ∈ flat1 := by decide +kernel
def sb_7 : List Int32 := [116, 111, 108, 108]
theorem sm_7 : ∀ j : Nat, j < 4 → (Cond.eq (.elem (.field (.string "RaftForestModel" 345) "java/lang/String" "value" "[B") (.int (Int32.ofNat j))) (.int (sb_7.getD j 0)) : Cond) ∈ flat1 := by decide +kernel
theorem sr_8 : (Cond.stringRef "RaftForestModel" 384 "jam" : Cond) ∈ lw_tbl := List.mem_append_right _ (List.mem_of_getElem? (i := 1480) (by decide +kernel))
theorem se_8 : (Cond.exactly (.string "RaftForestModel" 384) "java/lang/String" : Cond) ∈ flat1 := by decide +kernel
theorem sc_8 : (Cond.eq (.field (.string "RaftForestModel" 384) "java/lang/String" "coder" "B") (.int 0) : Cond) ∈ flat1 := by decide +kernel
theorem sa_8 : (Cond.arrayOf (.field (.string "RaftForestModel" 384) "java/lang/String" "value" "[B") .byte : Cond) ∈ flat1 := by decide +kernel
theorem sl_8 : (Cond.eq (.length (.field (.string "RaftForestModel" 384) "java/lang/String" "value" "[B")) (.int (Int32.ofNat 3)) : Cond) ∈ flat1 := by decide +kernel
def sb_8 : List Int32 := [106, 97, 109]
theorem sm_8 : ∀ j : Nat, j < 3 → (Cond.eq (.elem (.field (.string "RaftForestModel" 384) "java/lang/String" "value" "[B") (.int (Int32.ofNat j))) (.int (sb_8.getD j 0)) : Cond) ∈ flat1 := by decide +kernel
theorem sr_9 : (Cond.stringRef "RaftForestModel" 386 "take" : Cond) ∈ lw_tbl := List.mem_append_right _ (List.mem_of_getElem? (i := 1481) (by decide +kernel))
theorem se_9 : (Cond.exactly (.string "RaftForestModel" 386) "java/lang/String" : Cond) ∈ flat1 := by decide +kernel
theorem sc_9 : (Cond.eq (.field (.string "RaftForestModel" 386) "java/lang/String" "coder" "B") (.int 0) : Cond) ∈ flat1 := by decide +kernel
theorem sa_9 : (Cond.arrayOf (.field (.string "RaftForestModel" 386) "java/lang/String" "value" "[B") .byte : Cond) ∈ flat1 := by decide +kernel
theorem sl_9 : (Cond.eq (.length (.field (.string "RaftForestModel" 386) "java/lang/String" "value" "[B")) (.int (Int32.ofNat 4)) : Cond) ∈ flat1 := by decide +kernel
def sb_9 : List Int32 := [116, 97, 107, 101]
theorem sm_9 : ∀ j : Nat, j < 4 → (Cond.eq (.elem (.field (.string "RaftForestModel" 386) "java/lang/String" "value" "[B") (.int (Int32.ofNat j))) (.int (sb_9.getD j 0)) : Cond) ∈ flat1 := by decide +kernel
theorem sr_10 : (Cond.stringRef "RaftForestModel" 388 "add" : Cond) ∈ lw_tbl := List.mem_append_right _ (List.mem_of_getElem? (i := 1482) (by decide +kernel))
theorem se_10 : (Cond.exactly (.string "RaftForestModel" 388) "java/lang/String" : Cond) ∈ flat1 := by decide +kernel
theorem sc_10 : (Cond.eq (.field (.string "RaftForestModel" 388) "java/lang/String" "coder" "B") (.int 0) : Cond) ∈ flat1 := by decide +kernel
theorem sa_10 : (Cond.arrayOf (.field (.string "RaftForestModel" 388) "java/lang/String" "value" "[B") .byte : Cond) ∈ flat1 := by decide +kernel
theorem sl_10 : (Cond.eq (.length (.field (.string "RaftForestModel" 388) "java/lang/String" "value" "[B")) (.int (Int32.ofNat 3)) : Cond) ∈ flat1 := by decide +kernel
def sb_10 : List Int32 := [97, 100, 100]
theorem sm_10 : ∀ j : Nat, j < 3 → (Cond.eq (.elem (.field (.string "RaftForestModel" 388) "java/lang/String" "value" "[B") (.int (Int32.ofNat j))) (.int (sb_10.getD j 0)) : Cond) ∈ flat1 := by decide +kernel
theorem sr_11 : (Cond.stringRef "RaftForestModel" 390 "elect" : Cond) ∈ lw_tbl := List.mem_append_right _ (List.mem_of_getElem? (i := 1483) (by decide +kernel))
theorem se_11 : (Cond.exactly (.string "RaftForestModel" 390) "java/lang/String" : Cond) ∈ flat1 := by decide +kernel
theorem sc_11 : (Cond.eq (.field (.string "RaftForestModel" 390) "java/lang/String" "coder" "B") (.int 0) : Cond) ∈ flat1 := by decide +kernel
theorem sa_11 : (Cond.arrayOf (.field (.string "RaftForestModel" 390) "java/lang/String" "value" "[B") .byte : Cond) ∈ flat1 := by decide +kernel
theorem sl_11 : (Cond.eq (.length (.field (.string "RaftForestModel" 390) "java/lang/String" "value" "[B")) (.int (Int32.ofNat 5)) : Cond) ∈ flat1 := by decide +kernel
def sb_11 : List Int32 := [101, 108, 101, 99, 116]
theorem sm_11 : ∀ j : Nat, j < 5 → (Cond.eq (.elem (.field (.string "RaftForestModel" 390) "java/lang/String" "value" "[B") (.int (Int32.ofNat j))) (.int (sb_11.getD j 0)) : Cond) ∈ flat1 := by decide +kernel
theorem sr_12 : (Cond.stringRef "RaftForestModel" 392 "mine" : Cond) ∈ lw_tbl := List.mem_append_right _ (List.mem_of_getElem? (i := 1484) (by decide +kernel))
theorem se_12 : (Cond.exactly (.string "RaftForestModel" 392) "java/lang/String" : Cond) ∈ flat1 := by decide +kernel
theorem sc_12 : (Cond.eq (.field (.string "RaftForestModel" 392) "java/lang/String" "coder" "B") (.int 0) : Cond) ∈ flat1 := by decide +kernel
theorem sa_12 : (Cond.arrayOf (.field (.string "RaftForestModel" 392) "java/lang/String" "value" "[B") .byte : Cond) ∈ flat1 := by decide +kernel
theorem sl_12 : (Cond.eq (.length (.field (.string "RaftForestModel" 392) "java/lang/String" "value" "[B")) (.int (Int32.ofNat 4)) : Cond) ∈ flat1 := by decide +kernel
def sb_12 : List Int32 := [109, 105, 110, 101]
theorem sm_12 : ∀ j : Nat, j < 4 → (Cond.eq (.elem (.field (.string "RaftForestModel" 392) "java/lang/String" "value" "[B") (.int (Int32.ofNat j))) (.int (sb_12.getD j 0)) : Cond) ∈ flat1 := by decide +kernel
theorem dvX10 : ∀ j, j < 80 → defaultValue (tyX10 j) = vp_V [.int 0, .null, .null, .null, .null, .null, .null, .null, .null, .null, .null, .null, .null, .null, .null, .null, .null, .null, .null, .null, .null, .null, .null, .null, .null, .null, .null, .null, .null, .null, .null, .null, .null, .null, .null, .null, .null, .int 0, .int 0, .int 0, .int 0, .int 0, .int 0, .int 0, .int 0, .int 0, .int 0, .int 0, .null, .null, .null, .null, .null, .null, .null, .null, .null, .null, .null, .null, .null, .int 0, .int 0, .int 0, .int 0, .int 0, .int 0, .int 0, .null, .null, .null, .null, .null, .int 0, .int 0, .null, .null, .null, .int 0, .int 0] j := by decide +kernel
set_option maxHeartbeats 4000000 in
set_option maxRecDepth 100000 in
theorem start_facts {s : State} {args : Array Value} (hts : ∀ w ∈ lw_tbl, w.before args s = true) (hgv : (Jvm.Cond.and given_1 narrow_1).before args s = true) : ∃ (D : va_G) (k : Nat → ClassId) (sd : Nat → Nat), va_K D vwCl (TY k) s ∧ EX s ∧ SX sd (fun q : Nat => s.heap.size ≤ q) s s.heap := by
  have hw : ∀ w ∈ wsB, w.before args s = true := fun w h => hts w (wB_in w h)
  have hs := flat_of_before _ hgv
  obtain ⟨c0, i0, hk0⟩ := u_known (C := RX0) (T := TX0) (N := 17) (n := 17) hw inlX0 (hw _ wd_284)
  obtain ⟨c1, i1, hk1⟩ := u_known (C := RX1) (T := TX1) (N := 4) (n := 4) hw inlX1 (hw _ wd_394)
  obtain ⟨c2, i2, hk2⟩ := u_known (C := RX2) (T := TX2) (N := 12) (n := 12) hw inlX2 (hw _ wd_66)
  obtain ⟨c3, i3, hk3⟩ := u_known (C := RX3) (T := TX3) (N := 3) (n := 3) hw inlX3 (hw _ wd_60)
  obtain ⟨c4, i4, hk4⟩ := u_known (C := RX4) (T := TX4) (N := 6) (n := 6) hw inlX4 (hw _ wd_167)
  obtain ⟨c5, i5, hk5⟩ := u_known (C := RX5) (T := TX5) (N := 2) (n := 2) hw inlX5 (hw _ wd_153)
  obtain ⟨c6, i6, hk6⟩ := u_known (C := RX6) (T := TX6) (N := 15) (n := 15) hw inlX6 (hw _ wd_202)
  obtain ⟨c7, i7, hk7⟩ := u_known (C := RX7) (T := TX7) (N := 6) (n := 6) hw inlX7 (hw _ wd_29)
  obtain ⟨c8, i8, hk8⟩ := u_known (C := RX8) (T := TX8) (N := 9) (n := 9) hw inlX8 (hw _ wd_194)
  obtain ⟨c9, i9, hk9⟩ := u_known (C := RX9) (T := TX9) (N := 12) (n := 12) hw inlX9 (hw _ wd_21)
  obtain ⟨c10, i10, hk10⟩ := u_known (C := RX10) (T := TX10) (N := 80) (n := 80) hw inlX10 (hw _ wd_1131)
  obtain ⟨a0, ha0, hb0⟩ := arr_P (hw _ wd_58)
  obtain ⟨a1, ha1, hb1⟩ := arr_P (hw _ wd_192)
  obtain ⟨a2, ha2, hb2⟩ := arr_P (hw _ wd_1376)
  obtain ⟨a5, ha5, hb5⟩ := arr_P (hw _ wd_598)
  have hE : EX s := by
    refine ⟨fun w hw => ?_, va_AO.of (hts _ ao_166), va_AO.of (hts _ ao_393)⟩
    have h1 := hts w (nst_in w hw)
    obtain ⟨a, i, x, hh, e⟩ := nst_isM w hw
    subst e
    exact va_Nw.of rfl h1
  obtain ⟨a3, ha3⟩ := arr_Q hE.2.1
  obtain ⟨a4, ha4⟩ := arr_Q hE.2.2
  have hA : ∀ a : Nat, a < s.heap.size → ¬ (fun q : Nat => s.heap.size ≤ q) a := fun a h => Nat.not_le.mpr h
  obtain ⟨q0, hr0, hl0⟩ := str_one sb_0 (by decide) (hts _ sr_0) (hs _ se_0) (hs _ sc_0) (hs _ sa_0) (hs _ sl_0) (fun j hj => hs _ (sm_0 j hj)) hA
  obtain ⟨q1, hr1, hl1⟩ := str_one sb_1 (by decide) (hts _ sr_1) (hs _ se_1) (hs _ sc_1) (hs _ sa_1) (hs _ sl_1) (fun j hj => hs _ (sm_1 j hj)) hA
  obtain ⟨q2, hr2, hl2⟩ := str_one sb_2 (by decide) (hts _ sr_2) (hs _ se_2) (hs _ sc_2) (hs _ sa_2) (hs _ sl_2) (fun j hj => hs _ (sm_2 j hj)) hA
  obtain ⟨q3, hr3, hl3⟩ := str_one sb_3 (by decide) (hts _ sr_3) (hs _ se_3) (hs _ sc_3) (hs _ sa_3) (hs _ sl_3) (fun j hj => hs _ (sm_3 j hj)) hA
  obtain ⟨q4, hr4, hl4⟩ := str_one sb_4 (by decide) (hts _ sr_4) (hs _ se_4) (hs _ sc_4) (hs _ sa_4) (hs _ sl_4) (fun j hj => hs _ (sm_4 j hj)) hA
  obtain ⟨q5, hr5, hl5⟩ := str_one sb_5 (by decide) (hts _ sr_5) (hs _ se_5) (hs _ sc_5) (hs _ sa_5) (hs _ sl_5) (fun j hj => hs _ (sm_5 j hj)) hA
  obtain ⟨q6, hr6, hl6⟩ := str_one sb_6 (by decide) (hts _ sr_6) (hs _ se_6) (hs _ sc_6) (hs _ sa_6) (hs _ sl_6) (fun j hj => hs _ (sm_6 j hj)) hA
  obtain ⟨q7, hr7, hl7⟩ := str_one sb_7 (by decide) (hts _ sr_7) (hs _ se_7) (hs _ sc_7) (hs _ sa_7) (hs _ sl_7) (fun j hj => hs _ (sm_7 j hj)) hA
  obtain ⟨q8, hr8, hl8⟩ := str_one sb_8 (by decide) (hts _ sr_8) (hs _ se_8) (hs _ sc_8) (hs _ sa_8) (hs _ sl_8) (fun j hj => hs _ (sm_8 j hj)) hA
  obtain ⟨q9, hr9, hl9⟩ := str_one sb_9 (by decide) (hts _ sr_9) (hs _ se_9) (hs _ sc_9) (hs _ sa_9) (hs _ sl_9) (fun j hj => hs _ (sm_9 j hj)) hA
  obtain ⟨q10, hr10, hl10⟩ := str_one sb_10 (by decide) (hts _ sr_10) (hs _ se_10) (hs _ sc_10) (hs _ sa_10) (hs _ sl_10) (fun j hj => hs _ (sm_10 j hj)) hA
  obtain ⟨q11, hr11, hl11⟩ := str_one sb_11 (by decide) (hts _ sr_11) (hs _ se_11) (hs _ sc_11) (hs _ sa_11) (hs _ sl_11) (fun j hj => hs _ (sm_11 j hj)) hA
  obtain ⟨q12, hr12, hl12⟩ := str_one sb_12 (by decide) (hts _ sr_12) (hs _ se_12) (hs _ sc_12) (hs _ sa_12) (hs _ sl_12) (fun j hj => hs _ (sm_12 j hj)) hA
  refine ⟨(fun j => [c0, c1, c2, c3, c4, c5, c6, c7, c8, c9, c10].getD j c0, fun j => [i0, i1, i2, i3, i4, i5, i6, i7, i8, i9, i10].getD j i0), fun j => [a0, a1, a2, a3, a4, a5].getD j a0, fun j => [q0.1, q0.2, q1.1, q1.2, q2.1, q2.2, q3.1, q3.2, q4.1, q4.2, q5.1, q5.2, q6.1, q6.2, q7.1, q7.2, q8.1, q8.2, q9.1, q9.2, q10.1, q10.2, q11.1, q11.2, q12.1, q12.2].getD j 0, ⟨?_, ?_⟩, hE, ⟨?_, ?_⟩⟩
  · intro j q hq
    match j, hq with
    | 0, hq => cases hq; exact hk0
    | 1, hq => cases hq; exact hk1
    | 2, hq => cases hq; exact hk2
    | 3, hq => cases hq; exact hk3
    | 4, hq => cases hq; exact hk4
    | 5, hq => cases hq; exact hk5
    | 6, hq => cases hq; exact hk6
    | 7, hq => cases hq; exact hk7
    | 8, hq => cases hq; exact hk8
    | 9, hq => cases hq; exact hk9
    | 10, hq => cases hq; exact hk10
    | j + 11, hq => simp [vwCl] at hq
  · intro j q hq
    match j, hq with
    | 0, hq => cases hq; exact ⟨ha0, hb0⟩
    | 1, hq => cases hq; exact ⟨ha1, hb1⟩
    | 2, hq => cases hq; exact ⟨ha2, hb2⟩
    | 3, hq => cases hq; exact ha3
    | 4, hq => cases hq; exact ha4
    | 5, hq => cases hq; exact ⟨ha5, hb5⟩
    | j + 6, hq => simp [TY] at hq
  · exact va_Zof (hts _ ls_cs) (hw _ wd_13) (va_eqi (hs _ fl_cs)) hA
  · intro j r hq
    match j, hq with
    | 0, hq => cases hq; exact ⟨hr0, hl0⟩
    | 1, hq => cases hq; exact ⟨hr1, hl1⟩
    | 2, hq => cases hq; exact ⟨hr2, hl2⟩
    | 3, hq => cases hq; exact ⟨hr3, hl3⟩
    | 4, hq => cases hq; exact ⟨hr4, hl4⟩
    | 5, hq => cases hq; exact ⟨hr5, hl5⟩
    | 6, hq => cases hq; exact ⟨hr6, hl6⟩
    | 7, hq => cases hq; exact ⟨hr7, hl7⟩
    | 8, hq => cases hq; exact ⟨hr8, hl8⟩
    | 9, hq => cases hq; exact ⟨hr9, hl9⟩
    | 10, hq => cases hq; exact ⟨hr10, hl10⟩
    | 11, hq => cases hq; exact ⟨hr11, hl11⟩
    | 12, hq => cases hq; exact ⟨hr12, hl12⟩
    | j + 13, hq => simp [sN] at hq
def LC0 (p : Program) (s : State) (m : MethodId) (meth : Method) (c : Code) (D : va_G) (k : Nat → ClassId) (sd : Nat → Nat) (A : Nat → Prop) (b L : Nat) (xs : Nat → Int32) : Prop := p.tables.exec = Jvm.exec ∧ c.code = code ∧ meth.sig.returnType = ret ∧ c.maxLocals = 4 ∧ s.vm.findClass RL = some m.cls ∧ (∀ w ∈ wsB, w.before #[Value.ref b] s = true) ∧ va_X b L xs s s.heap ∧ b < s.heap.size ∧ meth.locks = false ∧ va_K D vwCl (TY k) s ∧ EX s ∧ SX sd A s s.heap ∧ (∀ q : Nat, s.heap.size ≤ q → A q) ∧ (∀ q : Nat, A q → s.heap.size ≤ q) ∧ ¬ A b
set_option maxHeartbeats 4000000 in
set_option maxRecDepth 100000 in
theorem law_head {p : Program} {l : Launch} {e : Env} {s : State} {m : MethodId} {below : List Frame} {meth : Method} {c : Code} {D : va_G} {k : Nat → ClassId} {sd : Nat → Nat} {A : Nat → Prop} {b : Nat} {xs : Nat → Int32} {L : Nat} {x y : Nat} {u : Nat → Nat → Nat} {v : Nat → Nat} {H : Heap} {locs : List Loc} {ls : Array Slot} (hL : L ≤ 6) (C : LC0 p s m meth c D k sd A b L xs) (hP : va_P D vwCl (G9n k x u ++ G10 k y v) H) (hD : va_D A (G9n k x u ++ G10 k y v)) (hS : va_S A s.heap H locs) (hl : lv_has ls 4 [(0, .ref b), (1, .ref x), (2, .ref y), (3, .int 0)]) : W p l e room_1 s m #[Value.ref b] below meth c H locs 287 18933 (lw_Z below #[Value.ref b] s) (F0 m 18 ls []) := by
  obtain ⟨hx, hb, hr, hml, hown, hw, hXs, hbl, hlocks, hK, hE, hX, hA, hAr, hbA⟩ := id C
  refine lv_iload_n hx hb dL_law_18 rfl (lv_at hl 3 rfl) ?_
  refine lv_aload_n hx hb dL_law_19 rfl (lv_at hl 0 rfl) ?_
  refine va_slen hx hb hXs hbl hbA hS dL_law_20 ?_
  refine lv_bipush (v := 6) hx hb dL_law_21 (by decide) ?_
  refine lv_isub hx hb dL_law_23 ?_
  rcases (show L = 6 ∨ L = 0 ∨ L = 1 ∨ L = 2 ∨ L = 3 ∨ L = 4 ∨ L = 5 by omega) with rfl | rfl | rfl | rfl | rfl | rfl | rfl
  · refine lv_icmp_gt (tgt := 1572) hx hb dL_law_24 (by decide) (fun h => absurd h (by decide)) (fun _ => ?_)
    refine lv_aload_n hx hb dL_law_27 rfl (lv_at hl 0 rfl) ?_
    refine lv_iload_n hx hb dL_law_28 rfl (lv_at hl 3 rfl) ?_
    refine va_sld hx hb hXs hbl hbA hS (i := 0) (by unfold vp_in; decide) dL_law_29 ?_
    refine lv_bipush (v := 63) hx hb dL_law_30 (by decide) ?_
    refine lv_iand hx hb dL_law_32 ?_
    refine lv_topi (fun z ez => ?_)
    by_cases n0 : z = 0
    · subst n0
      refine lv_tableIn (tgt := 224) hx hb dL_law_33 (by decide) (by decide) rfl (by decide) ?_
      exact lawm_feed C (hP.sl (sub_0 k x u y v)) (hD.sl (sub_0 k x u y v)) hS hl
    by_cases n1 : z = 1
    · subst n1
      refine lv_tableIn (tgt := 287) hx hb dL_law_33 (by decide) (by decide) rfl (by decide) ?_
      exact lawm_end C (hP.sl (sub_1 k x u y v)) (hD.sl (sub_1 k x u y v)) hS hl
    by_cases n2 : z = 2
    · subst n2
      refine lv_tableIn (tgt := 310) hx hb dL_law_33 (by decide) (by decide) rfl (by decide) ?_
      exact lawm_river C (hP.sl (sub_2 k x u y v)) (hD.sl (sub_2 k x u y v)) hS hl
    by_cases n3 : z = 3
    · subst n3
      refine lv_tableIn (tgt := 323) hx hb dL_law_33 (by decide) (by decide) rfl (by decide) ?_
      exact lawm_rule C (hP.sl (sub_3 k x u y v)) (hD.sl (sub_3 k x u y v)) hS hl
    by_cases n4 : z = 4
    · subst n4
      refine lv_tableIn (tgt := 336) hx hb dL_law_33 (by decide) (by decide) rfl (by decide) ?_
      exact lawm_force C (hP.sl (sub_1 k x u y v)) (hD.sl (sub_1 k x u y v)) hS hl
    by_cases n5 : z = 5
    · subst n5
      refine lv_tableIn (tgt := 359) hx hb dL_law_33 (by decide) (by decide) rfl (by decide) ?_
      exact lawm_bind C (hP.sl (sub_1 k x u y v)) (hD.sl (sub_1 k x u y v)) hS hl
    by_cases n6 : z = 6
    · subst n6
      refine lv_tableIn (tgt := 392) hx hb dL_law_33 (by decide) (by decide) rfl (by decide) ?_
      exact lawm_law C (hP.sl (sub_1 k x u y v)) (hD.sl (sub_1 k x u y v)) hS hl
    by_cases n7 : z = 7
    · subst n7
      refine lv_tableIn (tgt := 425) hx hb dL_law_33 (by decide) (by decide) rfl (by decide) ?_
      exact lawm_bend C (hP.sl (sub_1 k x u y v)) (hD.sl (sub_1 k x u y v)) hS hl
    by_cases n8 : z = 8
    · subst n8
      refine lv_tableIn (tgt := 458) hx hb dL_law_33 (by decide) (by decide) rfl (by decide) ?_
      exact lawm_village C (hP.sl (sub_1 k x u y v)) (hD.sl (sub_1 k x u y v)) hS hl
    by_cases n9 : z = 9
    · subst n9
      refine lv_tableIn (tgt := 491) hx hb dL_law_33 (by decide) (by decide) rfl (by decide) ?_
      exact lawm_log C (hP.sl (sub_1 k x u y v)) (hD.sl (sub_1 k x u y v)) hS hl
    by_cases n10 : z = 10
    · subst n10
      refine lv_tableIn (tgt := 524) hx hb dL_law_33 (by decide) (by decide) rfl (by decide) ?_
      exact lawm_notch C (hP.sl (sub_1 k x u y v)) (hD.sl (sub_1 k x u y v)) hS hl
    by_cases n11 : z = 11
    · subst n11
      refine lv_tableIn (tgt := 557) hx hb dL_law_33 (by decide) (by decide) rfl (by decide) ?_
      exact lawm_cut C (hP.sl (sub_1 k x u y v)) (hD.sl (sub_1 k x u y v)) hS hl
    by_cases n12 : z = 12
    · subst n12
      refine lv_tableIn (tgt := 590) hx hb dL_law_33 (by decide) (by decide) rfl (by decide) ?_
      exact lawm_cutOver C (hP.sl (sub_1 k x u y v)) (hD.sl (sub_1 k x u y v)) hS hl
    by_cases n13 : z = 13
    · subst n13
      refine lv_tableIn (tgt := 633) hx hb dL_law_33 (by decide) (by decide) rfl (by decide) ?_
      exact lawm_undo C (hP.sl (sub_1 k x u y v)) (hD.sl (sub_1 k x u y v)) hS hl
    by_cases n14 : z = 14
    · subst n14
      refine lv_tableIn (tgt := 646) hx hb dL_law_33 (by decide) (by decide) rfl (by decide) ?_
      exact lawm_launch C (hP.sl (sub_1 k x u y v)) (hD.sl (sub_1 k x u y v)) hS hl
    by_cases n15 : z = 15
    · subst n15
      refine lv_tableIn (tgt := 669) hx hb dL_law_33 (by decide) (by decide) rfl (by decide) ?_
      exact lawm_land C (hP.sl (sub_1 k x u y v)) (hD.sl (sub_1 k x u y v)) hS hl
    by_cases n16 : z = 16
    · subst n16
      refine lv_tableIn (tgt := 702) hx hb dL_law_33 (by decide) (by decide) rfl (by decide) ?_
      exact lawm_burn C (hP.sl (sub_1 k x u y v)) (hD.sl (sub_1 k x u y v)) hS hl
    by_cases n17 : z = 17
    · subst n17
      refine lv_tableIn (tgt := 725) hx hb dL_law_33 (by decide) (by decide) rfl (by decide) ?_
      exact lawm_saw C (hP.sl (sub_1 k x u y v)) (hD.sl (sub_1 k x u y v)) hS hl
    by_cases n18 : z = 18
    · subst n18
      refine lv_tableIn (tgt := 758) hx hb dL_law_33 (by decide) (by decide) rfl (by decide) ?_
      exact lawm_ahead C (hP.sl (sub_1 k x u y v)) (hD.sl (sub_1 k x u y v)) hS hl
    by_cases n19 : z = 19
    · subst n19
      refine lv_tableIn (tgt := 791) hx hb dL_law_33 (by decide) (by decide) rfl (by decide) ?_
      exact lawm_dam C (hP.sl (sub_1 k x u y v)) (hD.sl (sub_1 k x u y v)) hS hl
    by_cases n20 : z = 20
    · subst n20
      refine lv_tableIn (tgt := 814) hx hb dL_law_33 (by decide) (by decide) rfl (by decide) ?_
      exact lawm_appeal C (hP.sl (sub_1 k x u y v)) (hD.sl (sub_1 k x u y v)) hS hl
    by_cases n21 : z = 21
    · subst n21
      refine lv_tableIn (tgt := 837) hx hb dL_law_33 (by decide) (by decide) rfl (by decide) ?_
      exact lawm_votes C (hP.sl (sub_1 k x u y v)) (hD.sl (sub_1 k x u y v)) hS hl
    by_cases n22 : z = 22
    · subst n22
      refine lv_tableIn (tgt := 870) hx hb dL_law_33 (by decide) (by decide) rfl (by decide) ?_
      exact lawm_flood C (hP.sl (sub_1 k x u y v)) (hD.sl (sub_1 k x u y v)) hS hl
    by_cases n23 : z = 23
    · subst n23
      refine lv_tableIn (tgt := 893) hx hb dL_law_33 (by decide) (by decide) rfl (by decide) ?_
      exact lawm_elected C (hP.sl (sub_1 k x u y v)) (hD.sl (sub_1 k x u y v)) hS hl
    by_cases n24 : z = 24
    · subst n24
      refine lv_tableIn (tgt := 916) hx hb dL_law_33 (by decide) (by decide) rfl (by decide) ?_
      exact lawm_wedding C (hP.sl (sub_1 k x u y v)) (hD.sl (sub_1 k x u y v)) hS hl
    by_cases n25 : z = 25
    · subst n25
      refine lv_tableIn (tgt := 939) hx hb dL_law_33 (by decide) (by decide) rfl (by decide) ?_
      exact lawm_winter C (hP.sl (sub_1 k x u y v)) (hD.sl (sub_1 k x u y v)) hS hl
    by_cases n26 : z = 26
    · subst n26
      refine lv_tableIn (tgt := 962) hx hb dL_law_33 (by decide) (by decide) rfl (by decide) ?_
      exact lawm_days C (hP.sl (sub_1 k x u y v)) (hD.sl (sub_1 k x u y v)) hS hl
    by_cases n27 : z = 27
    · subst n27
      refine lv_tableIn (tgt := 985) hx hb dL_law_33 (by decide) (by decide) rfl (by decide) ?_
      exact lawm_floats C (hP.sl (sub_1 k x u y v)) (hD.sl (sub_1 k x u y v)) hS hl
    by_cases n28 : z = 28
    · subst n28
      refine lv_tableIn (tgt := 1018) hx hb dL_law_33 (by decide) (by decide) rfl (by decide) ?_
      exact lawm_letAhead C (hP.sl (sub_1 k x u y v)) (hD.sl (sub_1 k x u y v)) hS hl
    by_cases n29 : z = 29
    · subst n29
      refine lv_tableIn (tgt := 1051) hx hb dL_law_33 (by decide) (by decide) rfl (by decide) ?_
      exact lawm_kin C (hP.sl (sub_1 k x u y v)) (hD.sl (sub_1 k x u y v)) hS hl
    by_cases n30 : z = 30
    · subst n30
      refine lv_tableIn (tgt := 1084) hx hb dL_law_33 (by decide) (by decide) rfl (by decide) ?_
      exact lawm_kinOf C (hP.sl (sub_1 k x u y v)) (hD.sl (sub_1 k x u y v)) hS hl
    by_cases n31 : z = 31
    · subst n31
      refine lv_tableIn (tgt := 1107) hx hb dL_law_33 (by decide) (by decide) rfl (by decide) ?_
      exact lawm_was C (hP.sl (sub_1 k x u y v)) (hD.sl (sub_1 k x u y v)) hS hl
    by_cases n32 : z = 32
    · subst n32
      refine lv_tableIn (tgt := 1140) hx hb dL_law_33 (by decide) (by decide) rfl (by decide) ?_
      exact lawm_wereAt C (hP.sl (sub_1 k x u y v)) (hD.sl (sub_1 k x u y v)) hS hl
    by_cases n33 : z = 33
    · subst n33
      refine lv_tableIn (tgt := 1183) hx hb dL_law_33 (by decide) (by decide) rfl (by decide) ?_
      exact lawm_likely C (hP.sl (sub_1 k x u y v)) (hD.sl (sub_1 k x u y v)) hS hl
    by_cases n34 : z = 34
    · subst n34
      refine lv_tableIn (tgt := 1246) hx hb dL_law_33 (by decide) (by decide) rfl (by decide) ?_
      exact lawm_sight C (hP.sl (sub_1 k x u y v)) (hD.sl (sub_1 k x u y v)) hS hl
    by_cases n35 : z = 35
    · subst n35
      refine lv_tableIn (tgt := 1289) hx hb dL_law_33 (by decide) (by decide) rfl (by decide) ?_
      exact lawm_parted C (hP.sl (sub_1 k x u y v)) (hD.sl (sub_1 k x u y v)) hS hl
    by_cases n36 : z = 36
    · subst n36
      refine lv_tableIn (tgt := 1332) hx hb dL_law_33 (by decide) (by decide) rfl (by decide) ?_
      exact lawm_owes C (hP.sl (sub_1 k x u y v)) (hD.sl (sub_1 k x u y v)) hS hl
    by_cases n37 : z = 37
    · subst n37
      refine lv_tableIn (tgt := 1365) hx hb dL_law_33 (by decide) (by decide) rfl (by decide) ?_
      exact lawm_payments C (hP.sl (sub_1 k x u y v)) (hD.sl (sub_1 k x u y v)) hS hl
    by_cases n38 : z = 38
    · subst n38
      refine lv_tableIn (tgt := 1378) hx hb dL_law_33 (by decide) (by decide) rfl (by decide) ?_
      exact lawm_repaid C (hP.sl (sub_1 k x u y v)) (hD.sl (sub_1 k x u y v)) hS hl
    by_cases n39 : z = 39
    · subst n39
      refine lv_tableIn (tgt := 1421) hx hb dL_law_33 (by decide) (by decide) rfl (by decide) ?_
      exact lawm_seed C (hP.sl (sub_1 k x u y v)) (hD.sl (sub_1 k x u y v)) hS hl
    by_cases n40 : z = 40
    · subst n40
      refine lv_tableIn (tgt := 1444) hx hb dL_law_33 (by decide) (by decide) rfl (by decide) ?_
      exact lawm_drawn C (hP.sl (sub_1 k x u y v)) (hD.sl (sub_1 k x u y v)) hS hl
    by_cases n41 : z = 41
    · subst n41
      refine lv_tableIn (tgt := 1497) hx hb dL_law_33 (by decide) (by decide) rfl (by decide) ?_
      exact lawm_count C (hP.sl (sub_1 k x u y v)) (hD.sl (sub_1 k x u y v)) hS hl
    by_cases n42 : z = 42
    · subst n42
      refine lv_tableIn (tgt := 1520) hx hb dL_law_33 (by decide) (by decide) rfl (by decide) ?_
      rcases x_four (xs 1) with hq | hq | hq | hq | hq
      · exact lawm_image_0 C (hP.sl (sub_4 k x u y v)) (hD.sl (sub_4 k x u y v)) hS hl hq
      · exact lawm_image_1 C (hP.sl (sub_5 k x u y v)) (hD.sl (sub_5 k x u y v)) hS hl hq
      · exact lawm_image_2 C (hP.sl (sub_6 k x u y v)) (hD.sl (sub_6 k x u y v)) hS hl hq
      · exact lawm_image_3 C (hP.sl (sub_7 k x u y v)) (hD.sl (sub_7 k x u y v)) hS hl hq
      · exact lawm_image_n C (hP.sl (sub_8 k x u y v)) (hD.sl (sub_8 k x u y v)) hS hl hq
    by_cases n43 : z = 43
    · subst n43
      refine lv_tableIn (tgt := 1543) hx hb dL_law_33 (by decide) (by decide) rfl (by decide) ?_
      rcases x_four (xs 1) with hq | hq | hq | hq | hq
      · exact lawm_back_0 C (hP.sl (sub_9 k x u y v)) (hD.sl (sub_9 k x u y v)) hS hl hq
      · exact lawm_back_1 C (hP.sl (sub_10 k x u y v)) (hD.sl (sub_10 k x u y v)) hS hl hq
      · exact lawm_back_2 C (hP.sl (sub_11 k x u y v)) (hD.sl (sub_11 k x u y v)) hS hl hq
      · exact lawm_back_3 C (hP.sl (sub_12 k x u y v)) (hD.sl (sub_12 k x u y v)) hS hl hq
      · exact lawm_back_n C (hP.sl (sub_8 k x u y v)) (hD.sl (sub_8 k x u y v)) hS hl hq
    refine lv_tableOut (tgt := 1566) hx hb dL_law_33 (by have e0 := lv_neT (a := 0) n0 (by decide); have e1 := lv_neT (a := 1) n1 (by decide); have e2 := lv_neT (a := 2) n2 (by decide); have e3 := lv_neT (a := 3) n3 (by decide); have e4 := lv_neT (a := 4) n4 (by decide); have e5 := lv_neT (a := 5) n5 (by decide); have e6 := lv_neT (a := 6) n6 (by decide); have e7 := lv_neT (a := 7) n7 (by decide); have e8 := lv_neT (a := 8) n8 (by decide); have e9 := lv_neT (a := 9) n9 (by decide); have e10 := lv_neT (a := 10) n10 (by decide); have e11 := lv_neT (a := 11) n11 (by decide); have e12 := lv_neT (a := 12) n12 (by decide); have e13 := lv_neT (a := 13) n13 (by decide); have e14 := lv_neT (a := 14) n14 (by decide); have e15 := lv_neT (a := 15) n15 (by decide); have e16 := lv_neT (a := 16) n16 (by decide); have e17 := lv_neT (a := 17) n17 (by decide); have e18 := lv_neT (a := 18) n18 (by decide); have e19 := lv_neT (a := 19) n19 (by decide); have e20 := lv_neT (a := 20) n20 (by decide); have e21 := lv_neT (a := 21) n21 (by decide); have e22 := lv_neT (a := 22) n22 (by decide); have e23 := lv_neT (a := 23) n23 (by decide); have e24 := lv_neT (a := 24) n24 (by decide); have e25 := lv_neT (a := 25) n25 (by decide); have e26 := lv_neT (a := 26) n26 (by decide); have e27 := lv_neT (a := 27) n27 (by decide); have e28 := lv_neT (a := 28) n28 (by decide); have e29 := lv_neT (a := 29) n29 (by decide); have e30 := lv_neT (a := 30) n30 (by decide); have e31 := lv_neT (a := 31) n31 (by decide); have e32 := lv_neT (a := 32) n32 (by decide); have e33 := lv_neT (a := 33) n33 (by decide); have e34 := lv_neT (a := 34) n34 (by decide); have e35 := lv_neT (a := 35) n35 (by decide); have e36 := lv_neT (a := 36) n36 (by decide); have e37 := lv_neT (a := 37) n37 (by decide); have e38 := lv_neT (a := 38) n38 (by decide); have e39 := lv_neT (a := 39) n39 (by decide); have e40 := lv_neT (a := 40) n40 (by decide); have e41 := lv_neT (a := 41) n41 (by decide); have e42 := lv_neT (a := 42) n42 (by decide); have e43 := lv_neT (a := 43) n43 (by decide); omega) (by decide) ?_
    exact law_end C hS hl
  · refine lv_icmp_gt (tgt := 1572) hx hb dL_law_24 (by decide) (fun _ => ?_) (fun h => absurd (by decide) h)
    refine lv_iconst (v := 1) hx hb dL_law_1572 (by decide) ?_
    refine va_forget (fun q hq => hAr _ (hS.2.2 q hq)) ?_
    refine W.widen (k := 600000) (n := 7302250) (Nat.le_of_ble_eq_true rfl) (Nat.le_of_ble_eq_true rfl) ?_
    exact lw_ret hx hb hr hlocks dL_law_1573
  · refine lv_icmp_gt (tgt := 1572) hx hb dL_law_24 (by decide) (fun _ => ?_) (fun h => absurd (by decide) h)
    refine lv_iconst (v := 1) hx hb dL_law_1572 (by decide) ?_
    refine va_forget (fun q hq => hAr _ (hS.2.2 q hq)) ?_
    refine W.widen (k := 600000) (n := 7302250) (Nat.le_of_ble_eq_true rfl) (Nat.le_of_ble_eq_true rfl) ?_
    exact lw_ret hx hb hr hlocks dL_law_1573
  · refine lv_icmp_gt (tgt := 1572) hx hb dL_law_24 (by decide) (fun _ => ?_) (fun h => absurd (by decide) h)
    refine lv_iconst (v := 1) hx hb dL_law_1572 (by decide) ?_
    refine va_forget (fun q hq => hAr _ (hS.2.2 q hq)) ?_
    refine W.widen (k := 600000) (n := 7302250) (Nat.le_of_ble_eq_true rfl) (Nat.le_of_ble_eq_true rfl) ?_
    exact lw_ret hx hb hr hlocks dL_law_1573
  · refine lv_icmp_gt (tgt := 1572) hx hb dL_law_24 (by decide) (fun _ => ?_) (fun h => absurd (by decide) h)
    refine lv_iconst (v := 1) hx hb dL_law_1572 (by decide) ?_
    refine va_forget (fun q hq => hAr _ (hS.2.2 q hq)) ?_
    refine W.widen (k := 600000) (n := 7302250) (Nat.le_of_ble_eq_true rfl) (Nat.le_of_ble_eq_true rfl) ?_
    exact lw_ret hx hb hr hlocks dL_law_1573
  · refine lv_icmp_gt (tgt := 1572) hx hb dL_law_24 (by decide) (fun _ => ?_) (fun h => absurd (by decide) h)
    refine lv_iconst (v := 1) hx hb dL_law_1572 (by decide) ?_
    refine va_forget (fun q hq => hAr _ (hS.2.2 q hq)) ?_
    refine W.widen (k := 600000) (n := 7302250) (Nat.le_of_ble_eq_true rfl) (Nat.le_of_ble_eq_true rfl) ?_
    exact lw_ret hx hb hr hlocks dL_law_1573
  · refine lv_icmp_gt (tgt := 1572) hx hb dL_law_24 (by decide) (fun _ => ?_) (fun h => absurd (by decide) h)
    refine lv_iconst (v := 1) hx hb dL_law_1572 (by decide) ?_
    refine va_forget (fun q hq => hAr _ (hS.2.2 q hq)) ?_
    refine W.widen (k := 600000) (n := 7302250) (Nat.le_of_ble_eq_true rfl) (Nat.le_of_ble_eq_true rfl) ?_
    exact lw_ret hx hb hr hlocks dL_law_1573
set_option maxHeartbeats 4000000 in
set_option maxRecDepth 100000 in
theorem whole_start {p : Program} {e : Env} {s : State} {m : MethodId} {below : List Frame} {meth : Method} {c : Code} (l : Launch) (hflags : l.flags = flags0) {b L : Nat} {xs : Nat → Int32} (hL : L ≤ 6) (C0 : lw_At p s m meth c b L xs) : W p l e room_1 s m #[Value.ref b] below meth c s.heap [] 0 0 (lw_Z below #[Value.ref b] s) (entryFrame m ([Value.ref b] : List Value).toArray 4) := by
  obtain ⟨hx, hb, hr, hml, hown, hts, hXs, hbl, hlocks, hgv⟩ := C0
  have hw : ∀ w ∈ wsB, w.before #[Value.ref b] s = true := fun w h => hts w (wB_in w h)
  obtain ⟨D, k, sd, hK, hE, hX⟩ := start_facts hts hgv
  obtain ⟨A, hAe⟩ : ∃ A : Nat → Prop, A = fun q : Nat => s.heap.size ≤ q := ⟨_, rfl⟩
  rw [← hAe] at hX
  have hA : ∀ q : Nat, s.heap.size ≤ q → A q := fun q h => by rw [hAe]; exact h
  have hAr : ∀ q : Nat, A q → s.heap.size ≤ q := fun q h => by rw [hAe] at h; exact h
  have hbA : ¬ A b := fun h => Nat.not_le.mpr hbl (hAr b h)
  have C : LC0 p s m meth c D k sd A b L xs := ⟨hx, hb, hr, hml, hown, hw, hXs, hbl, hlocks, hK, hE, hX, hA, hAr, hbA⟩
  have hS : va_S A s.heap s.heap [] := va_S.rf
  have hP : va_P D vwCl ([] : va_W) s.heap := fun k q h => by simp at h
  have hD : va_D A ([] : va_W) := ⟨fun i j p q h => by simp at h, fun k q h => by simp at h⟩
  have hl := lv_entry ([.ref b]) (n := 4) (Nat.le_of_ble_eq_true rfl)
  rw [lg_entry_eq]
  generalize (lg_sl ([.ref b]) ++ List.replicate (4 - (lg_sl ([.ref b])).length) Slot.unset).toArray = ls at hl ⊢
  have hl : lv_has ls 4 [(0, .ref b)] := hl
  refine va_new (ci := 9) (fs := [.null, .null, .null, .null, .int 0, .null, .null, .null, .null, .null, .null, .null]) (C := RX9) (T := TX9) (N := 12) hx hb hw inlX9 tyX9 tyX9_ok hown (hw _ wd_20) (hw _ wd_21) (hw _ wd_1) hK hP hD hS hA rfl (fun j hj => by rcases (show j = 0 ∨ j = 1 ∨ j = 2 ∨ j = 3 ∨ j = 4 ∨ j = 5 ∨ j = 6 ∨ j = 7 ∨ j = 8 ∨ j = 9 ∨ j = 10 ∨ j = 11 by omega) with rfl | rfl | rfl | rfl | rfl | rfl | rfl | rfl | rfl | rfl | rfl | rfl <;> rfl) (Nat.le_of_ble_eq_true rfl) (Nat.le_of_ble_eq_true rfl) dL_law_0 (fun q_1 H hP hD hS => ?_)
  refine W.widen (k := 1) (n := 12) (Nat.le_of_ble_eq_true rfl) (Nat.le_of_ble_eq_true rfl) ?_
  refine lv_dup hx hb dL_law_3 rfl ?_
  refine x_vL (va_runI (As := []) (rest := [.ref q_1]) ⟨hx, hb, hml, hown, hw⟩ (kX9_init l D k sd q_1 H.size) (cwI 0 hw (gM wd_24) rfl rfl rfl (hw _ wd_1) (hw _ wd_22) (hw _ wd_23) rfl (by decide +kernel) ⟨Nat.le_of_ble_eq_true rfl, Nat.le_of_ble_eq_true rfl⟩) (pre_SL hK hE hX hP hD hS hA) rfl rfl hl.1 rfl (lv_room (Nat.le_of_ble_eq_true rfl)) dL_law_4 ⟨Nat.le_of_ble_eq_true rfl, Nat.le_of_ble_eq_true rfl⟩) hP hD hS hA (fun u_2 H locs hp_3 hP hD hS => ?_)
  refine W.widen (k := 229) (n := 8351) (Nat.le_of_ble_eq_true rfl) (Nat.le_of_ble_eq_true rfl) ?_
  refine lv_astore_n (lv' := [(1, .ref q_1), (0, .ref b)]) hx hb dL_law_7 rfl hl (by decide) rfl (fun ls hl => ?_)
  refine va_new (ci := 10) (fs := [.int 0, .null, .null, .null, .null, .null, .null, .null, .null, .null, .null, .null, .null, .null, .null, .null, .null, .null, .null, .null, .null, .null, .null, .null, .null, .null, .null, .null, .null, .null, .null, .null, .null, .null, .null, .null, .null, .int 0, .int 0, .int 0, .int 0, .int 0, .int 0, .int 0, .int 0, .int 0, .int 0, .int 0, .null, .null, .null, .null, .null, .null, .null, .null, .null, .null, .null, .null, .null, .int 0, .int 0, .int 0, .int 0, .int 0, .int 0, .int 0, .null, .null, .null, .null, .null, .int 0, .int 0, .null, .null, .null, .int 0, .int 0]) (C := RX10) (T := TX10) (N := 80) hx hb hw inlX10 tyX10 tyX10_ok hown (hw _ wd_1130) (hw _ wd_1131) (hw _ wd_11) hK hP hD hS hA rfl (fun j hj => dvX10 j hj) (Nat.le_of_ble_eq_true rfl) (Nat.le_of_ble_eq_true rfl) dL_law_8 (fun q_5 H hP hD hS => ?_)
  refine W.widen (k := 230) (n := 8431) (Nat.le_of_ble_eq_true rfl) (Nat.le_of_ble_eq_true rfl) ?_
  refine lv_dup hx hb dL_law_11 rfl ?_
  refine x_vL (va_runI (As := []) (rest := [.ref q_5]) ⟨hx, hb, hml, hown, hw⟩ (kX10_init l D k sd q_5 H.size) (cwI 0 hw (gM wd_1134) rfl rfl rfl (hw _ wd_11) (hw _ wd_1132) (hw _ wd_1133) rfl (by decide +kernel) ⟨Nat.le_of_ble_eq_true rfl, Nat.le_of_ble_eq_true rfl⟩) (pre_SL hK hE hX hP hD hS hA) rfl rfl hl.1 rfl (lv_room (Nat.le_of_ble_eq_true rfl)) dL_law_12 ⟨Nat.le_of_ble_eq_true rfl, Nat.le_of_ble_eq_true rfl⟩) hP hD hS hA (fun u_6 H locs hp_7 hP hD hS => ?_)
  refine W.widen (k := 287) (n := 18933) (Nat.le_of_ble_eq_true rfl) (Nat.le_of_ble_eq_true rfl) ?_
  refine lv_astore_n (lv' := [(2, .ref q_5), (1, .ref q_1), (0, .ref b)]) hx hb dL_law_15 rfl hl (by decide) rfl (fun ls hl => ?_)
  refine lv_iconst (v := 0) hx hb dL_law_16 (by decide) ?_
  refine lv_istore_n (lv' := [(3, .int 0), (2, .ref q_5), (1, .ref q_1), (0, .ref b)]) hx hb dL_law_17 rfl hl (by decide) rfl (fun ls hl => ?_)
  have hP : va_P D vwCl (G9n k q_1 u_2 ++ G10 k q_5 u_6) H := hP
  have hD : va_D A (G9n k q_1 u_2 ++ G10 k q_5 u_6) := hD
  have hl : lv_has ls 4 [(0, .ref b), (1, .ref q_1), (2, .ref q_5), (3, .int 0)] := lv_sub hl [3, 2, 1, 0] rfl
  exact law_head hL C hP hD hS hl
