theorem arr_P {s : State} {args : Array Value} {ty : FieldType} (h : (Cond.arrayClass ty).before args s = true) : ∃ cA : ClassId, ArrOfT s cA ty ∧ s.vm.findClass ("[" ++ ty.toString) = some cA := by
  obtain ⟨cA, kA, comp, h1, h2, h3⟩ := Cond.arrayClass_spec h
  exact ⟨cA, fun n z => ⟨fun k h => (by cases h), kA, h2, comp, h3⟩, h1⟩
theorem arr_Q {s : State} {C : String} (h : va_AO C s) : ∃ cA : ClassId, ArrOfT s cA (.object C) ∧ va_RA s cA (.object C) := by
  obtain ⟨comp, cA, kA, h1, -, h2, h3, h4⟩ := Cond.arrayOver_spec h
  exact ⟨cA, fun n z => ⟨fun k h => (by cases h), kA, h2, comp, h3⟩, kA, comp, h2, h3, h1, h4⟩
theorem str_one {args : Array Value} {s : State} {A : Nat → Prop} {own tx : String} {i n : Nat} (byt : List Int32) (hN : n < 2 ^ 31) (h1 : (Cond.stringRef own i tx).before args s = true)
    (hex : (Cond.exactly (.string own i) "java/lang/String").before args s = true) (hco : (Cond.eq (.field (.string own i) "java/lang/String" "coder" "B") (.int 0)).before args s = true)
    (har : (Cond.arrayOf (.field (.string own i) "java/lang/String" "value" "[B") .byte).before args s = true) (hle : (Cond.eq (.length (.field (.string own i) "java/lang/String" "value" "[B")) (.int (Int32.ofNat n))).before args s = true)
    (hel : ∀ j : Nat, j < n → (Cond.eq (.elem (.field (.string own i) "java/lang/String" "value" "[B") (.int (Int32.ofNat j))) (.int (byt.getD j 0))).before args s = true) (hA : ∀ a : Nat, a < s.heap.size → ¬ A a) : ∃ q : Nat × Nat, vk_R own i tx q.1 s ∧ SL q.1 q.2 n byt A s s.heap := by
  obtain ⟨a, c, cA, kA, q1, q2, q3, q4, q5, q6, -⟩ := Cond.exactly_spec (args := args) (first := s) (o := none) (s := s) (idx := []) (t := .string own i) (cls := "java/lang/String") hex
  obtain ⟨t, ht, hT⟩ := va_Tof (f := fun j => .int (byt.getD j 0)) (A := A) hN har (va_eqt hle) (fun j hj => va_eqt (hel j hj)) hA
  exact ⟨(a, t), vk_R.of h1 q1, ⟨cA, q3, q5, by rw [q6]; exact q2, hA a (Array.getElem?_eq_some_iff.mp q3).1⟩, vk_OFof q1 (va_eqt hco) hA, vk_OFof q1 ht hA, hT⟩
abbrev flat1 : List Cond := flatC (Jvm.Cond.and given_1 narrow_1)
def sb_0 : List Int32 := [108, 111, 103]
def sb_1 : List Int32 := [119, 111, 111, 100]
def sb_2 : List Int32 := [108, 101, 110, 103, 116, 104]
def sb_3 : List Int32 := [114, 105, 110, 103, 115]
def sb_4 : List Int32 := [98, 101, 110, 100]
def sb_5 : List Int32 := [118, 105, 108, 108, 97, 103, 101]
def sb_6 : List Int32 := [111, 119, 110, 101, 114]
def sb_7 : List Int32 := [102, 101, 108, 108, 101, 100]
def Ls0 : List (String × Nat × List Int32) := [("RaftForestModel", 223, sb_0), ("RaftForestModel", 225, sb_1), ("RaftForestModel", 226, sb_2), ("RaftForestModel", 227, sb_3), ("RaftForestModel", 229, sb_4), ("RaftForestModel", 231, sb_5), ("RaftForestModel", 233, sb_6), ("RaftForestModel", 235, sb_7)]
set_option maxRecDepth 100000 in
theorem Ls0_in : ∀ r ∈ Ls0, (Cond.exactly (.string r.1 r.2.1) "java/lang/String" : Cond) ∈ flat1 ∧ (Cond.eq (.field (.string r.1 r.2.1) "java/lang/String" "coder" "B") (.int 0) : Cond) ∈ flat1 ∧ (Cond.arrayOf (.field (.string r.1 r.2.1) "java/lang/String" "value" "[B") .byte : Cond) ∈ flat1 ∧ (Cond.eq (.length (.field (.string r.1 r.2.1) "java/lang/String" "value" "[B")) (.int (Int32.ofNat r.2.2.length)) : Cond) ∈ flat1 ∧ ∀ j : Nat, j < r.2.2.length → (Cond.eq (.elem (.field (.string r.1 r.2.1) "java/lang/String" "value" "[B") (.int (Int32.ofNat j))) (.int (r.2.2.getD j 0)) : Cond) ∈ flat1 := by decide +kernel
def Ls0r : List (Nat × Cond) := [(1416, Cond.stringRef "RaftForestModel" 223 "log"), (1415, Cond.stringRef "RaftForestModel" 225 "wood"), (1508, Cond.stringRef "RaftForestModel" 226 "length"), (1509, Cond.stringRef "RaftForestModel" 227 "rings"), (1510, Cond.stringRef "RaftForestModel" 229 "bend"), (1413, Cond.stringRef "RaftForestModel" 231 "village"), (1511, Cond.stringRef "RaftForestModel" 233 "owner"), (1512, Cond.stringRef "RaftForestModel" 235 "felled")]
set_option maxRecDepth 100000 in
theorem Ls0r_in : ∀ q ∈ Ls0r, tables_1[q.1]? = some q.2 := by decide +kernel
theorem sr_0 : (Cond.stringRef "RaftForestModel" 223 "log" : Cond) ∈ lw_tbl := List.mem_append_right _ (List.mem_of_getElem? (Ls0r_in (1416, Cond.stringRef "RaftForestModel" 223 "log") (List.mem_of_getElem? (i := 0) rfl)))
theorem se_0 : (Cond.exactly (.string "RaftForestModel" 223) "java/lang/String" : Cond) ∈ flat1 := (Ls0_in ("RaftForestModel", 223, sb_0) (List.mem_of_getElem? (i := 0) rfl)).1
theorem sc_0 : (Cond.eq (.field (.string "RaftForestModel" 223) "java/lang/String" "coder" "B") (.int 0) : Cond) ∈ flat1 := (Ls0_in ("RaftForestModel", 223, sb_0) (List.mem_of_getElem? (i := 0) rfl)).2.1
theorem sa_0 : (Cond.arrayOf (.field (.string "RaftForestModel" 223) "java/lang/String" "value" "[B") .byte : Cond) ∈ flat1 := (Ls0_in ("RaftForestModel", 223, sb_0) (List.mem_of_getElem? (i := 0) rfl)).2.2.1
theorem sl_0 : (Cond.eq (.length (.field (.string "RaftForestModel" 223) "java/lang/String" "value" "[B")) (.int (Int32.ofNat 3)) : Cond) ∈ flat1 := (Ls0_in ("RaftForestModel", 223, sb_0) (List.mem_of_getElem? (i := 0) rfl)).2.2.2.1
theorem sm_0 : ∀ j : Nat, j < 3 → (Cond.eq (.elem (.field (.string "RaftForestModel" 223) "java/lang/String" "value" "[B") (.int (Int32.ofNat j))) (.int (sb_0.getD j 0)) : Cond) ∈ flat1 := fun j hj => (Ls0_in ("RaftForestModel", 223, sb_0) (List.mem_of_getElem? (i := 0) rfl)).2.2.2.2 j hj
theorem sr_1 : (Cond.stringRef "RaftForestModel" 225 "wood" : Cond) ∈ lw_tbl := List.mem_append_right _ (List.mem_of_getElem? (Ls0r_in (1415, Cond.stringRef "RaftForestModel" 225 "wood") (List.mem_of_getElem? (i := 1) rfl)))
theorem se_1 : (Cond.exactly (.string "RaftForestModel" 225) "java/lang/String" : Cond) ∈ flat1 := (Ls0_in ("RaftForestModel", 225, sb_1) (List.mem_of_getElem? (i := 1) rfl)).1
theorem sc_1 : (Cond.eq (.field (.string "RaftForestModel" 225) "java/lang/String" "coder" "B") (.int 0) : Cond) ∈ flat1 := (Ls0_in ("RaftForestModel", 225, sb_1) (List.mem_of_getElem? (i := 1) rfl)).2.1
theorem sa_1 : (Cond.arrayOf (.field (.string "RaftForestModel" 225) "java/lang/String" "value" "[B") .byte : Cond) ∈ flat1 := (Ls0_in ("RaftForestModel", 225, sb_1) (List.mem_of_getElem? (i := 1) rfl)).2.2.1
theorem sl_1 : (Cond.eq (.length (.field (.string "RaftForestModel" 225) "java/lang/String" "value" "[B")) (.int (Int32.ofNat 4)) : Cond) ∈ flat1 := (Ls0_in ("RaftForestModel", 225, sb_1) (List.mem_of_getElem? (i := 1) rfl)).2.2.2.1
theorem sm_1 : ∀ j : Nat, j < 4 → (Cond.eq (.elem (.field (.string "RaftForestModel" 225) "java/lang/String" "value" "[B") (.int (Int32.ofNat j))) (.int (sb_1.getD j 0)) : Cond) ∈ flat1 := fun j hj => (Ls0_in ("RaftForestModel", 225, sb_1) (List.mem_of_getElem? (i := 1) rfl)).2.2.2.2 j hj
theorem sr_2 : (Cond.stringRef "RaftForestModel" 226 "length" : Cond) ∈ lw_tbl := List.mem_append_right _ (List.mem_of_getElem? (Ls0r_in (1508, Cond.stringRef "RaftForestModel" 226 "length") (List.mem_of_getElem? (i := 2) rfl)))
theorem se_2 : (Cond.exactly (.string "RaftForestModel" 226) "java/lang/String" : Cond) ∈ flat1 := (Ls0_in ("RaftForestModel", 226, sb_2) (List.mem_of_getElem? (i := 2) rfl)).1
theorem sc_2 : (Cond.eq (.field (.string "RaftForestModel" 226) "java/lang/String" "coder" "B") (.int 0) : Cond) ∈ flat1 := (Ls0_in ("RaftForestModel", 226, sb_2) (List.mem_of_getElem? (i := 2) rfl)).2.1
theorem sa_2 : (Cond.arrayOf (.field (.string "RaftForestModel" 226) "java/lang/String" "value" "[B") .byte : Cond) ∈ flat1 := (Ls0_in ("RaftForestModel", 226, sb_2) (List.mem_of_getElem? (i := 2) rfl)).2.2.1
theorem sl_2 : (Cond.eq (.length (.field (.string "RaftForestModel" 226) "java/lang/String" "value" "[B")) (.int (Int32.ofNat 6)) : Cond) ∈ flat1 := (Ls0_in ("RaftForestModel", 226, sb_2) (List.mem_of_getElem? (i := 2) rfl)).2.2.2.1
theorem sm_2 : ∀ j : Nat, j < 6 → (Cond.eq (.elem (.field (.string "RaftForestModel" 226) "java/lang/String" "value" "[B") (.int (Int32.ofNat j))) (.int (sb_2.getD j 0)) : Cond) ∈ flat1 := fun j hj => (Ls0_in ("RaftForestModel", 226, sb_2) (List.mem_of_getElem? (i := 2) rfl)).2.2.2.2 j hj
theorem sr_3 : (Cond.stringRef "RaftForestModel" 227 "rings" : Cond) ∈ lw_tbl := List.mem_append_right _ (List.mem_of_getElem? (Ls0r_in (1509, Cond.stringRef "RaftForestModel" 227 "rings") (List.mem_of_getElem? (i := 3) rfl)))
theorem se_3 : (Cond.exactly (.string "RaftForestModel" 227) "java/lang/String" : Cond) ∈ flat1 := (Ls0_in ("RaftForestModel", 227, sb_3) (List.mem_of_getElem? (i := 3) rfl)).1
theorem sc_3 : (Cond.eq (.field (.string "RaftForestModel" 227) "java/lang/String" "coder" "B") (.int 0) : Cond) ∈ flat1 := (Ls0_in ("RaftForestModel", 227, sb_3) (List.mem_of_getElem? (i := 3) rfl)).2.1
theorem sa_3 : (Cond.arrayOf (.field (.string "RaftForestModel" 227) "java/lang/String" "value" "[B") .byte : Cond) ∈ flat1 := (Ls0_in ("RaftForestModel", 227, sb_3) (List.mem_of_getElem? (i := 3) rfl)).2.2.1
theorem sl_3 : (Cond.eq (.length (.field (.string "RaftForestModel" 227) "java/lang/String" "value" "[B")) (.int (Int32.ofNat 5)) : Cond) ∈ flat1 := (Ls0_in ("RaftForestModel", 227, sb_3) (List.mem_of_getElem? (i := 3) rfl)).2.2.2.1
theorem sm_3 : ∀ j : Nat, j < 5 → (Cond.eq (.elem (.field (.string "RaftForestModel" 227) "java/lang/String" "value" "[B") (.int (Int32.ofNat j))) (.int (sb_3.getD j 0)) : Cond) ∈ flat1 := fun j hj => (Ls0_in ("RaftForestModel", 227, sb_3) (List.mem_of_getElem? (i := 3) rfl)).2.2.2.2 j hj
theorem sr_4 : (Cond.stringRef "RaftForestModel" 229 "bend" : Cond) ∈ lw_tbl := List.mem_append_right _ (List.mem_of_getElem? (Ls0r_in (1510, Cond.stringRef "RaftForestModel" 229 "bend") (List.mem_of_getElem? (i := 4) rfl)))
theorem se_4 : (Cond.exactly (.string "RaftForestModel" 229) "java/lang/String" : Cond) ∈ flat1 := (Ls0_in ("RaftForestModel", 229, sb_4) (List.mem_of_getElem? (i := 4) rfl)).1
theorem sc_4 : (Cond.eq (.field (.string "RaftForestModel" 229) "java/lang/String" "coder" "B") (.int 0) : Cond) ∈ flat1 := (Ls0_in ("RaftForestModel", 229, sb_4) (List.mem_of_getElem? (i := 4) rfl)).2.1
theorem sa_4 : (Cond.arrayOf (.field (.string "RaftForestModel" 229) "java/lang/String" "value" "[B") .byte : Cond) ∈ flat1 := (Ls0_in ("RaftForestModel", 229, sb_4) (List.mem_of_getElem? (i := 4) rfl)).2.2.1
theorem sl_4 : (Cond.eq (.length (.field (.string "RaftForestModel" 229) "java/lang/String" "value" "[B")) (.int (Int32.ofNat 4)) : Cond) ∈ flat1 := (Ls0_in ("RaftForestModel", 229, sb_4) (List.mem_of_getElem? (i := 4) rfl)).2.2.2.1
theorem sm_4 : ∀ j : Nat, j < 4 → (Cond.eq (.elem (.field (.string "RaftForestModel" 229) "java/lang/String" "value" "[B") (.int (Int32.ofNat j))) (.int (sb_4.getD j 0)) : Cond) ∈ flat1 := fun j hj => (Ls0_in ("RaftForestModel", 229, sb_4) (List.mem_of_getElem? (i := 4) rfl)).2.2.2.2 j hj
theorem sr_5 : (Cond.stringRef "RaftForestModel" 231 "village" : Cond) ∈ lw_tbl := List.mem_append_right _ (List.mem_of_getElem? (Ls0r_in (1413, Cond.stringRef "RaftForestModel" 231 "village") (List.mem_of_getElem? (i := 5) rfl)))
theorem se_5 : (Cond.exactly (.string "RaftForestModel" 231) "java/lang/String" : Cond) ∈ flat1 := (Ls0_in ("RaftForestModel", 231, sb_5) (List.mem_of_getElem? (i := 5) rfl)).1
theorem sc_5 : (Cond.eq (.field (.string "RaftForestModel" 231) "java/lang/String" "coder" "B") (.int 0) : Cond) ∈ flat1 := (Ls0_in ("RaftForestModel", 231, sb_5) (List.mem_of_getElem? (i := 5) rfl)).2.1
theorem sa_5 : (Cond.arrayOf (.field (.string "RaftForestModel" 231) "java/lang/String" "value" "[B") .byte : Cond) ∈ flat1 := (Ls0_in ("RaftForestModel", 231, sb_5) (List.mem_of_getElem? (i := 5) rfl)).2.2.1
theorem sl_5 : (Cond.eq (.length (.field (.string "RaftForestModel" 231) "java/lang/String" "value" "[B")) (.int (Int32.ofNat 7)) : Cond) ∈ flat1 := (Ls0_in ("RaftForestModel", 231, sb_5) (List.mem_of_getElem? (i := 5) rfl)).2.2.2.1
theorem sm_5 : ∀ j : Nat, j < 7 → (Cond.eq (.elem (.field (.string "RaftForestModel" 231) "java/lang/String" "value" "[B") (.int (Int32.ofNat j))) (.int (sb_5.getD j 0)) : Cond) ∈ flat1 := fun j hj => (Ls0_in ("RaftForestModel", 231, sb_5) (List.mem_of_getElem? (i := 5) rfl)).2.2.2.2 j hj
theorem sr_6 : (Cond.stringRef "RaftForestModel" 233 "owner" : Cond) ∈ lw_tbl := List.mem_append_right _ (List.mem_of_getElem? (Ls0r_in (1511, Cond.stringRef "RaftForestModel" 233 "owner") (List.mem_of_getElem? (i := 6) rfl)))
theorem se_6 : (Cond.exactly (.string "RaftForestModel" 233) "java/lang/String" : Cond) ∈ flat1 := (Ls0_in ("RaftForestModel", 233, sb_6) (List.mem_of_getElem? (i := 6) rfl)).1
theorem sc_6 : (Cond.eq (.field (.string "RaftForestModel" 233) "java/lang/String" "coder" "B") (.int 0) : Cond) ∈ flat1 := (Ls0_in ("RaftForestModel", 233, sb_6) (List.mem_of_getElem? (i := 6) rfl)).2.1
theorem sa_6 : (Cond.arrayOf (.field (.string "RaftForestModel" 233) "java/lang/String" "value" "[B") .byte : Cond) ∈ flat1 := (Ls0_in ("RaftForestModel", 233, sb_6) (List.mem_of_getElem? (i := 6) rfl)).2.2.1
theorem sl_6 : (Cond.eq (.length (.field (.string "RaftForestModel" 233) "java/lang/String" "value" "[B")) (.int (Int32.ofNat 5)) : Cond) ∈ flat1 := (Ls0_in ("RaftForestModel", 233, sb_6) (List.mem_of_getElem? (i := 6) rfl)).2.2.2.1
theorem sm_6 : ∀ j : Nat, j < 5 → (Cond.eq (.elem (.field (.string "RaftForestModel" 233) "java/lang/String" "value" "[B") (.int (Int32.ofNat j))) (.int (sb_6.getD j 0)) : Cond) ∈ flat1 := fun j hj => (Ls0_in ("RaftForestModel", 233, sb_6) (List.mem_of_getElem? (i := 6) rfl)).2.2.2.2 j hj
theorem sr_7 : (Cond.stringRef "RaftForestModel" 235 "felled" : Cond) ∈ lw_tbl := List.mem_append_right _ (List.mem_of_getElem? (Ls0r_in (1512, Cond.stringRef "RaftForestModel" 235 "felled") (List.mem_of_getElem? (i := 7) rfl)))
theorem se_7 : (Cond.exactly (.string "RaftForestModel" 235) "java/lang/String" : Cond) ∈ flat1 := (Ls0_in ("RaftForestModel", 235, sb_7) (List.mem_of_getElem? (i := 7) rfl)).1
theorem sc_7 : (Cond.eq (.field (.string "RaftForestModel" 235) "java/lang/String" "coder" "B") (.int 0) : Cond) ∈ flat1 := (Ls0_in ("RaftForestModel", 235, sb_7) (List.mem_of_getElem? (i := 7) rfl)).2.1
theorem sa_7 : (Cond.arrayOf (.field (.string "RaftForestModel" 235) "java/lang/String" "value" "[B") .byte : Cond) ∈ flat1 := (Ls0_in ("RaftForestModel", 235, sb_7) (List.mem_of_getElem? (i := 7) rfl)).2.2.1
theorem sl_7 : (Cond.eq (.length (.field (.string "RaftForestModel" 235) "java/lang/String" "value" "[B")) (.int (Int32.ofNat 6)) : Cond) ∈ flat1 := (Ls0_in ("RaftForestModel", 235, sb_7) (List.mem_of_getElem? (i := 7) rfl)).2.2.2.1
theorem sm_7 : ∀ j : Nat, j < 6 → (Cond.eq (.elem (.field (.string "RaftForestModel" 235) "java/lang/String" "value" "[B") (.int (Int32.ofNat j))) (.int (sb_7.getD j 0)) : Cond) ∈ flat1 := fun j hj => (Ls0_in ("RaftForestModel", 235, sb_7) (List.mem_of_getElem? (i := 7) rfl)).2.2.2.2 j hj
def sb_8 : List Int32 := [108, 97, 115, 116]
def sb_9 : List Int32 := [110, 111, 116, 99, 104, 101, 115]
def sb_10 : List Int32 := [114, 111, 111, 109]
def sb_11 : List Int32 := [119, 97, 116, 101, 114]
def sb_12 : List Int32 := [100, 97, 121]
def sb_13 : List Int32 := [110, 111, 116]
def sb_14 : List Int32 := [97, 110, 100]
def sb_15 : List Int32 := [111, 114]
def Ls8 : List (String × Nat × List Int32) := [("RaftForestModel", 237, sb_8), ("RaftForestModel", 239, sb_9), ("RaftForestModel", 240, sb_10), ("RaftForestModel", 242, sb_11), ("RaftForestModel", 244, sb_12), ("RaftForestModel", 324, sb_13), ("RaftForestModel", 338, sb_14), ("RaftForestModel", 340, sb_15)]
set_option maxRecDepth 100000 in
theorem Ls8_in : ∀ r ∈ Ls8, (Cond.exactly (.string r.1 r.2.1) "java/lang/String" : Cond) ∈ flat1 ∧ (Cond.eq (.field (.string r.1 r.2.1) "java/lang/String" "coder" "B") (.int 0) : Cond) ∈ flat1 ∧ (Cond.arrayOf (.field (.string r.1 r.2.1) "java/lang/String" "value" "[B") .byte : Cond) ∈ flat1 ∧ (Cond.eq (.length (.field (.string r.1 r.2.1) "java/lang/String" "value" "[B")) (.int (Int32.ofNat r.2.2.length)) : Cond) ∈ flat1 ∧ ∀ j : Nat, j < r.2.2.length → (Cond.eq (.elem (.field (.string r.1 r.2.1) "java/lang/String" "value" "[B") (.int (Int32.ofNat j))) (.int (r.2.2.getD j 0)) : Cond) ∈ flat1 := by decide +kernel
def Ls8r : List (Nat × Cond) := [(1513, Cond.stringRef "RaftForestModel" 237 "last"), (1514, Cond.stringRef "RaftForestModel" 239 "notches"), (1515, Cond.stringRef "RaftForestModel" 240 "room"), (1516, Cond.stringRef "RaftForestModel" 242 "water"), (1517, Cond.stringRef "RaftForestModel" 244 "day"), (1531, Cond.stringRef "RaftForestModel" 324 "not"), (1548, Cond.stringRef "RaftForestModel" 338 "and"), (1549, Cond.stringRef "RaftForestModel" 340 "or")]
set_option maxRecDepth 100000 in
theorem Ls8r_in : ∀ q ∈ Ls8r, tables_1[q.1]? = some q.2 := by decide +kernel
theorem sr_8 : (Cond.stringRef "RaftForestModel" 237 "last" : Cond) ∈ lw_tbl := List.mem_append_right _ (List.mem_of_getElem? (Ls8r_in (1513, Cond.stringRef "RaftForestModel" 237 "last") (List.mem_of_getElem? (i := 0) rfl)))
theorem se_8 : (Cond.exactly (.string "RaftForestModel" 237) "java/lang/String" : Cond) ∈ flat1 := (Ls8_in ("RaftForestModel", 237, sb_8) (List.mem_of_getElem? (i := 0) rfl)).1
theorem sc_8 : (Cond.eq (.field (.string "RaftForestModel" 237) "java/lang/String" "coder" "B") (.int 0) : Cond) ∈ flat1 := (Ls8_in ("RaftForestModel", 237, sb_8) (List.mem_of_getElem? (i := 0) rfl)).2.1
theorem sa_8 : (Cond.arrayOf (.field (.string "RaftForestModel" 237) "java/lang/String" "value" "[B") .byte : Cond) ∈ flat1 := (Ls8_in ("RaftForestModel", 237, sb_8) (List.mem_of_getElem? (i := 0) rfl)).2.2.1
theorem sl_8 : (Cond.eq (.length (.field (.string "RaftForestModel" 237) "java/lang/String" "value" "[B")) (.int (Int32.ofNat 4)) : Cond) ∈ flat1 := (Ls8_in ("RaftForestModel", 237, sb_8) (List.mem_of_getElem? (i := 0) rfl)).2.2.2.1
theorem sm_8 : ∀ j : Nat, j < 4 → (Cond.eq (.elem (.field (.string "RaftForestModel" 237) "java/lang/String" "value" "[B") (.int (Int32.ofNat j))) (.int (sb_8.getD j 0)) : Cond) ∈ flat1 := fun j hj => (Ls8_in ("RaftForestModel", 237, sb_8) (List.mem_of_getElem? (i := 0) rfl)).2.2.2.2 j hj
theorem sr_9 : (Cond.stringRef "RaftForestModel" 239 "notches" : Cond) ∈ lw_tbl := List.mem_append_right _ (List.mem_of_getElem? (Ls8r_in (1514, Cond.stringRef "RaftForestModel" 239 "notches") (List.mem_of_getElem? (i := 1) rfl)))
theorem se_9 : (Cond.exactly (.string "RaftForestModel" 239) "java/lang/String" : Cond) ∈ flat1 := (Ls8_in ("RaftForestModel", 239, sb_9) (List.mem_of_getElem? (i := 1) rfl)).1
theorem sc_9 : (Cond.eq (.field (.string "RaftForestModel" 239) "java/lang/String" "coder" "B") (.int 0) : Cond) ∈ flat1 := (Ls8_in ("RaftForestModel", 239, sb_9) (List.mem_of_getElem? (i := 1) rfl)).2.1
theorem sa_9 : (Cond.arrayOf (.field (.string "RaftForestModel" 239) "java/lang/String" "value" "[B") .byte : Cond) ∈ flat1 := (Ls8_in ("RaftForestModel", 239, sb_9) (List.mem_of_getElem? (i := 1) rfl)).2.2.1
theorem sl_9 : (Cond.eq (.length (.field (.string "RaftForestModel" 239) "java/lang/String" "value" "[B")) (.int (Int32.ofNat 7)) : Cond) ∈ flat1 := (Ls8_in ("RaftForestModel", 239, sb_9) (List.mem_of_getElem? (i := 1) rfl)).2.2.2.1
theorem sm_9 : ∀ j : Nat, j < 7 → (Cond.eq (.elem (.field (.string "RaftForestModel" 239) "java/lang/String" "value" "[B") (.int (Int32.ofNat j))) (.int (sb_9.getD j 0)) : Cond) ∈ flat1 := fun j hj => (Ls8_in ("RaftForestModel", 239, sb_9) (List.mem_of_getElem? (i := 1) rfl)).2.2.2.2 j hj
theorem sr_10 : (Cond.stringRef "RaftForestModel" 240 "room" : Cond) ∈ lw_tbl := List.mem_append_right _ (List.mem_of_getElem? (Ls8r_in (1515, Cond.stringRef "RaftForestModel" 240 "room") (List.mem_of_getElem? (i := 2) rfl)))
theorem se_10 : (Cond.exactly (.string "RaftForestModel" 240) "java/lang/String" : Cond) ∈ flat1 := (Ls8_in ("RaftForestModel", 240, sb_10) (List.mem_of_getElem? (i := 2) rfl)).1
theorem sc_10 : (Cond.eq (.field (.string "RaftForestModel" 240) "java/lang/String" "coder" "B") (.int 0) : Cond) ∈ flat1 := (Ls8_in ("RaftForestModel", 240, sb_10) (List.mem_of_getElem? (i := 2) rfl)).2.1
theorem sa_10 : (Cond.arrayOf (.field (.string "RaftForestModel" 240) "java/lang/String" "value" "[B") .byte : Cond) ∈ flat1 := (Ls8_in ("RaftForestModel", 240, sb_10) (List.mem_of_getElem? (i := 2) rfl)).2.2.1
theorem sl_10 : (Cond.eq (.length (.field (.string "RaftForestModel" 240) "java/lang/String" "value" "[B")) (.int (Int32.ofNat 4)) : Cond) ∈ flat1 := (Ls8_in ("RaftForestModel", 240, sb_10) (List.mem_of_getElem? (i := 2) rfl)).2.2.2.1
theorem sm_10 : ∀ j : Nat, j < 4 → (Cond.eq (.elem (.field (.string "RaftForestModel" 240) "java/lang/String" "value" "[B") (.int (Int32.ofNat j))) (.int (sb_10.getD j 0)) : Cond) ∈ flat1 := fun j hj => (Ls8_in ("RaftForestModel", 240, sb_10) (List.mem_of_getElem? (i := 2) rfl)).2.2.2.2 j hj
theorem sr_11 : (Cond.stringRef "RaftForestModel" 242 "water" : Cond) ∈ lw_tbl := List.mem_append_right _ (List.mem_of_getElem? (Ls8r_in (1516, Cond.stringRef "RaftForestModel" 242 "water") (List.mem_of_getElem? (i := 3) rfl)))
theorem se_11 : (Cond.exactly (.string "RaftForestModel" 242) "java/lang/String" : Cond) ∈ flat1 := (Ls8_in ("RaftForestModel", 242, sb_11) (List.mem_of_getElem? (i := 3) rfl)).1
theorem sc_11 : (Cond.eq (.field (.string "RaftForestModel" 242) "java/lang/String" "coder" "B") (.int 0) : Cond) ∈ flat1 := (Ls8_in ("RaftForestModel", 242, sb_11) (List.mem_of_getElem? (i := 3) rfl)).2.1
theorem sa_11 : (Cond.arrayOf (.field (.string "RaftForestModel" 242) "java/lang/String" "value" "[B") .byte : Cond) ∈ flat1 := (Ls8_in ("RaftForestModel", 242, sb_11) (List.mem_of_getElem? (i := 3) rfl)).2.2.1
theorem sl_11 : (Cond.eq (.length (.field (.string "RaftForestModel" 242) "java/lang/String" "value" "[B")) (.int (Int32.ofNat 5)) : Cond) ∈ flat1 := (Ls8_in ("RaftForestModel", 242, sb_11) (List.mem_of_getElem? (i := 3) rfl)).2.2.2.1
theorem sm_11 : ∀ j : Nat, j < 5 → (Cond.eq (.elem (.field (.string "RaftForestModel" 242) "java/lang/String" "value" "[B") (.int (Int32.ofNat j))) (.int (sb_11.getD j 0)) : Cond) ∈ flat1 := fun j hj => (Ls8_in ("RaftForestModel", 242, sb_11) (List.mem_of_getElem? (i := 3) rfl)).2.2.2.2 j hj
theorem sr_12 : (Cond.stringRef "RaftForestModel" 244 "day" : Cond) ∈ lw_tbl := List.mem_append_right _ (List.mem_of_getElem? (Ls8r_in (1517, Cond.stringRef "RaftForestModel" 244 "day") (List.mem_of_getElem? (i := 4) rfl)))
theorem se_12 : (Cond.exactly (.string "RaftForestModel" 244) "java/lang/String" : Cond) ∈ flat1 := (Ls8_in ("RaftForestModel", 244, sb_12) (List.mem_of_getElem? (i := 4) rfl)).1
theorem sc_12 : (Cond.eq (.field (.string "RaftForestModel" 244) "java/lang/String" "coder" "B") (.int 0) : Cond) ∈ flat1 := (Ls8_in ("RaftForestModel", 244, sb_12) (List.mem_of_getElem? (i := 4) rfl)).2.1
theorem sa_12 : (Cond.arrayOf (.field (.string "RaftForestModel" 244) "java/lang/String" "value" "[B") .byte : Cond) ∈ flat1 := (Ls8_in ("RaftForestModel", 244, sb_12) (List.mem_of_getElem? (i := 4) rfl)).2.2.1
theorem sl_12 : (Cond.eq (.length (.field (.string "RaftForestModel" 244) "java/lang/String" "value" "[B")) (.int (Int32.ofNat 3)) : Cond) ∈ flat1 := (Ls8_in ("RaftForestModel", 244, sb_12) (List.mem_of_getElem? (i := 4) rfl)).2.2.2.1
theorem sm_12 : ∀ j : Nat, j < 3 → (Cond.eq (.elem (.field (.string "RaftForestModel" 244) "java/lang/String" "value" "[B") (.int (Int32.ofNat j))) (.int (sb_12.getD j 0)) : Cond) ∈ flat1 := fun j hj => (Ls8_in ("RaftForestModel", 244, sb_12) (List.mem_of_getElem? (i := 4) rfl)).2.2.2.2 j hj
theorem sr_13 : (Cond.stringRef "RaftForestModel" 324 "not" : Cond) ∈ lw_tbl := List.mem_append_right _ (List.mem_of_getElem? (Ls8r_in (1531, Cond.stringRef "RaftForestModel" 324 "not") (List.mem_of_getElem? (i := 5) rfl)))
theorem se_13 : (Cond.exactly (.string "RaftForestModel" 324) "java/lang/String" : Cond) ∈ flat1 := (Ls8_in ("RaftForestModel", 324, sb_13) (List.mem_of_getElem? (i := 5) rfl)).1
theorem sc_13 : (Cond.eq (.field (.string "RaftForestModel" 324) "java/lang/String" "coder" "B") (.int 0) : Cond) ∈ flat1 := (Ls8_in ("RaftForestModel", 324, sb_13) (List.mem_of_getElem? (i := 5) rfl)).2.1
theorem sa_13 : (Cond.arrayOf (.field (.string "RaftForestModel" 324) "java/lang/String" "value" "[B") .byte : Cond) ∈ flat1 := (Ls8_in ("RaftForestModel", 324, sb_13) (List.mem_of_getElem? (i := 5) rfl)).2.2.1
theorem sl_13 : (Cond.eq (.length (.field (.string "RaftForestModel" 324) "java/lang/String" "value" "[B")) (.int (Int32.ofNat 3)) : Cond) ∈ flat1 := (Ls8_in ("RaftForestModel", 324, sb_13) (List.mem_of_getElem? (i := 5) rfl)).2.2.2.1
theorem sm_13 : ∀ j : Nat, j < 3 → (Cond.eq (.elem (.field (.string "RaftForestModel" 324) "java/lang/String" "value" "[B") (.int (Int32.ofNat j))) (.int (sb_13.getD j 0)) : Cond) ∈ flat1 := fun j hj => (Ls8_in ("RaftForestModel", 324, sb_13) (List.mem_of_getElem? (i := 5) rfl)).2.2.2.2 j hj
theorem sr_14 : (Cond.stringRef "RaftForestModel" 338 "and" : Cond) ∈ lw_tbl := List.mem_append_right _ (List.mem_of_getElem? (Ls8r_in (1548, Cond.stringRef "RaftForestModel" 338 "and") (List.mem_of_getElem? (i := 6) rfl)))
theorem se_14 : (Cond.exactly (.string "RaftForestModel" 338) "java/lang/String" : Cond) ∈ flat1 := (Ls8_in ("RaftForestModel", 338, sb_14) (List.mem_of_getElem? (i := 6) rfl)).1
theorem sc_14 : (Cond.eq (.field (.string "RaftForestModel" 338) "java/lang/String" "coder" "B") (.int 0) : Cond) ∈ flat1 := (Ls8_in ("RaftForestModel", 338, sb_14) (List.mem_of_getElem? (i := 6) rfl)).2.1
theorem sa_14 : (Cond.arrayOf (.field (.string "RaftForestModel" 338) "java/lang/String" "value" "[B") .byte : Cond) ∈ flat1 := (Ls8_in ("RaftForestModel", 338, sb_14) (List.mem_of_getElem? (i := 6) rfl)).2.2.1
theorem sl_14 : (Cond.eq (.length (.field (.string "RaftForestModel" 338) "java/lang/String" "value" "[B")) (.int (Int32.ofNat 3)) : Cond) ∈ flat1 := (Ls8_in ("RaftForestModel", 338, sb_14) (List.mem_of_getElem? (i := 6) rfl)).2.2.2.1
theorem sm_14 : ∀ j : Nat, j < 3 → (Cond.eq (.elem (.field (.string "RaftForestModel" 338) "java/lang/String" "value" "[B") (.int (Int32.ofNat j))) (.int (sb_14.getD j 0)) : Cond) ∈ flat1 := fun j hj => (Ls8_in ("RaftForestModel", 338, sb_14) (List.mem_of_getElem? (i := 6) rfl)).2.2.2.2 j hj
theorem sr_15 : (Cond.stringRef "RaftForestModel" 340 "or" : Cond) ∈ lw_tbl := List.mem_append_right _ (List.mem_of_getElem? (Ls8r_in (1549, Cond.stringRef "RaftForestModel" 340 "or") (List.mem_of_getElem? (i := 7) rfl)))
theorem se_15 : (Cond.exactly (.string "RaftForestModel" 340) "java/lang/String" : Cond) ∈ flat1 := (Ls8_in ("RaftForestModel", 340, sb_15) (List.mem_of_getElem? (i := 7) rfl)).1
theorem sc_15 : (Cond.eq (.field (.string "RaftForestModel" 340) "java/lang/String" "coder" "B") (.int 0) : Cond) ∈ flat1 := (Ls8_in ("RaftForestModel", 340, sb_15) (List.mem_of_getElem? (i := 7) rfl)).2.1
theorem sa_15 : (Cond.arrayOf (.field (.string "RaftForestModel" 340) "java/lang/String" "value" "[B") .byte : Cond) ∈ flat1 := (Ls8_in ("RaftForestModel", 340, sb_15) (List.mem_of_getElem? (i := 7) rfl)).2.2.1
theorem sl_15 : (Cond.eq (.length (.field (.string "RaftForestModel" 340) "java/lang/String" "value" "[B")) (.int (Int32.ofNat 2)) : Cond) ∈ flat1 := (Ls8_in ("RaftForestModel", 340, sb_15) (List.mem_of_getElem? (i := 7) rfl)).2.2.2.1
theorem sm_15 : ∀ j : Nat, j < 2 → (Cond.eq (.elem (.field (.string "RaftForestModel" 340) "java/lang/String" "value" "[B") (.int (Int32.ofNat j))) (.int (sb_15.getD j 0)) : Cond) ∈ flat1 := fun j hj => (Ls8_in ("RaftForestModel", 340, sb_15) (List.mem_of_getElem? (i := 7) rfl)).2.2.2.2 j hj
