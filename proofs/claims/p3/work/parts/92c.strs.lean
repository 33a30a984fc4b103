theorem sr_16 : (Cond.stringRef "RaftForestModel" 342 "river" : Cond) ∈ lw_tbl := List.mem_append_right _ (List.mem_of_getElem? (i := 1412) (by decide +kernel))
theorem se_16 : (Cond.exactly (.string "RaftForestModel" 342) "java/lang/String" : Cond) ∈ flat1 := by decide +kernel
theorem sc_16 : (Cond.eq (.field (.string "RaftForestModel" 342) "java/lang/String" "coder" "B") (.int 0) : Cond) ∈ flat1 := by decide +kernel
theorem sa_16 : (Cond.arrayOf (.field (.string "RaftForestModel" 342) "java/lang/String" "value" "[B") .byte : Cond) ∈ flat1 := by decide +kernel
theorem sl_16 : (Cond.eq (.length (.field (.string "RaftForestModel" 342) "java/lang/String" "value" "[B")) (.int (Int32.ofNat 5)) : Cond) ∈ flat1 := by decide +kernel
def sb_16 : List Int32 := [114, 105, 118, 101, 114]
theorem sm_16 : ∀ j : Nat, j < 5 → (Cond.eq (.elem (.field (.string "RaftForestModel" 342) "java/lang/String" "value" "[B") (.int (Int32.ofNat j))) (.int (sb_16.getD j 0)) : Cond) ∈ flat1 := by decide +kernel
theorem sr_17 : (Cond.stringRef "RaftForestModel" 344 "width" : Cond) ∈ lw_tbl := List.mem_append_right _ (List.mem_of_getElem? (i := 1414) (by decide +kernel))
theorem se_17 : (Cond.exactly (.string "RaftForestModel" 344) "java/lang/String" : Cond) ∈ flat1 := by decide +kernel
theorem sc_17 : (Cond.eq (.field (.string "RaftForestModel" 344) "java/lang/String" "coder" "B") (.int 0) : Cond) ∈ flat1 := by decide +kernel
theorem sa_17 : (Cond.arrayOf (.field (.string "RaftForestModel" 344) "java/lang/String" "value" "[B") .byte : Cond) ∈ flat1 := by decide +kernel
theorem sl_17 : (Cond.eq (.length (.field (.string "RaftForestModel" 344) "java/lang/String" "value" "[B")) (.int (Int32.ofNat 5)) : Cond) ∈ flat1 := by decide +kernel
def sb_17 : List Int32 := [119, 105, 100, 116, 104]
theorem sm_17 : ∀ j : Nat, j < 5 → (Cond.eq (.elem (.field (.string "RaftForestModel" 344) "java/lang/String" "value" "[B") (.int (Int32.ofNat j))) (.int (sb_17.getD j 0)) : Cond) ∈ flat1 := by decide +kernel
theorem sr_18 : (Cond.stringRef "RaftForestModel" 345 "toll" : Cond) ∈ lw_tbl := List.mem_append_right _ (List.mem_of_getElem? (i := 1417) (by decide +kernel))
theorem se_18 : (Cond.exactly (.string "RaftForestModel" 345) "java/lang/String" : Cond) ∈ flat1 := by decide +kernel
theorem sc_18 : (Cond.eq (.field (.string "RaftForestModel" 345) "java/lang/String" "coder" "B") (.int 0) : Cond) ∈ flat1 := by decide +kernel
theorem sa_18 : (Cond.arrayOf (.field (.string "RaftForestModel" 345) "java/lang/String" "value" "[B") .byte : Cond) ∈ flat1 := by decide +kernel
theorem sl_18 : (Cond.eq (.length (.field (.string "RaftForestModel" 345) "java/lang/String" "value" "[B")) (.int (Int32.ofNat 4)) : Cond) ∈ flat1 := by decide +kernel
def sb_18 : List Int32 := [116, 111, 108, 108]
theorem sm_18 : ∀ j : Nat, j < 4 → (Cond.eq (.elem (.field (.string "RaftForestModel" 345) "java/lang/String" "value" "[B") (.int (Int32.ofNat j))) (.int (sb_18.getD j 0)) : Cond) ∈ flat1 := by decide +kernel
theorem sr_19 : (Cond.stringRef "RaftForestModel" 384 "jam" : Cond) ∈ lw_tbl := List.mem_append_right _ (List.mem_of_getElem? (i := 1480) (by decide +kernel))
theorem se_19 : (Cond.exactly (.string "RaftForestModel" 384) "java/lang/String" : Cond) ∈ flat1 := by decide +kernel
theorem sc_19 : (Cond.eq (.field (.string "RaftForestModel" 384) "java/lang/String" "coder" "B") (.int 0) : Cond) ∈ flat1 := by decide +kernel
theorem sa_19 : (Cond.arrayOf (.field (.string "RaftForestModel" 384) "java/lang/String" "value" "[B") .byte : Cond) ∈ flat1 := by decide +kernel
theorem sl_19 : (Cond.eq (.length (.field (.string "RaftForestModel" 384) "java/lang/String" "value" "[B")) (.int (Int32.ofNat 3)) : Cond) ∈ flat1 := by decide +kernel
def sb_19 : List Int32 := [106, 97, 109]
theorem sm_19 : ∀ j : Nat, j < 3 → (Cond.eq (.elem (.field (.string "RaftForestModel" 384) "java/lang/String" "value" "[B") (.int (Int32.ofNat j))) (.int (sb_19.getD j 0)) : Cond) ∈ flat1 := by decide +kernel
theorem sr_20 : (Cond.stringRef "RaftForestModel" 386 "take" : Cond) ∈ lw_tbl := List.mem_append_right _ (List.mem_of_getElem? (i := 1481) (by decide +kernel))
theorem se_20 : (Cond.exactly (.string "RaftForestModel" 386) "java/lang/String" : Cond) ∈ flat1 := by decide +kernel
theorem sc_20 : (Cond.eq (.field (.string "RaftForestModel" 386) "java/lang/String" "coder" "B") (.int 0) : Cond) ∈ flat1 := by decide +kernel
theorem sa_20 : (Cond.arrayOf (.field (.string "RaftForestModel" 386) "java/lang/String" "value" "[B") .byte : Cond) ∈ flat1 := by decide +kernel
theorem sl_20 : (Cond.eq (.length (.field (.string "RaftForestModel" 386) "java/lang/String" "value" "[B")) (.int (Int32.ofNat 4)) : Cond) ∈ flat1 := by decide +kernel
def sb_20 : List Int32 := [116, 97, 107, 101]
theorem sm_20 : ∀ j : Nat, j < 4 → (Cond.eq (.elem (.field (.string "RaftForestModel" 386) "java/lang/String" "value" "[B") (.int (Int32.ofNat j))) (.int (sb_20.getD j 0)) : Cond) ∈ flat1 := by decide +kernel
theorem sr_21 : (Cond.stringRef "RaftForestModel" 388 "add" : Cond) ∈ lw_tbl := List.mem_append_right _ (List.mem_of_getElem? (i := 1482) (by decide +kernel))
theorem se_21 : (Cond.exactly (.string "RaftForestModel" 388) "java/lang/String" : Cond) ∈ flat1 := by decide +kernel
theorem sc_21 : (Cond.eq (.field (.string "RaftForestModel" 388) "java/lang/String" "coder" "B") (.int 0) : Cond) ∈ flat1 := by decide +kernel
theorem sa_21 : (Cond.arrayOf (.field (.string "RaftForestModel" 388) "java/lang/String" "value" "[B") .byte : Cond) ∈ flat1 := by decide +kernel
theorem sl_21 : (Cond.eq (.length (.field (.string "RaftForestModel" 388) "java/lang/String" "value" "[B")) (.int (Int32.ofNat 3)) : Cond) ∈ flat1 := by decide +kernel
def sb_21 : List Int32 := [97, 100, 100]
theorem sm_21 : ∀ j : Nat, j < 3 → (Cond.eq (.elem (.field (.string "RaftForestModel" 388) "java/lang/String" "value" "[B") (.int (Int32.ofNat j))) (.int (sb_21.getD j 0)) : Cond) ∈ flat1 := by decide +kernel
theorem sr_22 : (Cond.stringRef "RaftForestModel" 390 "elect" : Cond) ∈ lw_tbl := List.mem_append_right _ (List.mem_of_getElem? (i := 1483) (by decide +kernel))
theorem se_22 : (Cond.exactly (.string "RaftForestModel" 390) "java/lang/String" : Cond) ∈ flat1 := by decide +kernel
theorem sc_22 : (Cond.eq (.field (.string "RaftForestModel" 390) "java/lang/String" "coder" "B") (.int 0) : Cond) ∈ flat1 := by decide +kernel
theorem sa_22 : (Cond.arrayOf (.field (.string "RaftForestModel" 390) "java/lang/String" "value" "[B") .byte : Cond) ∈ flat1 := by decide +kernel
theorem sl_22 : (Cond.eq (.length (.field (.string "RaftForestModel" 390) "java/lang/String" "value" "[B")) (.int (Int32.ofNat 5)) : Cond) ∈ flat1 := by decide +kernel
def sb_22 : List Int32 := [101, 108, 101, 99, 116]
theorem sm_22 : ∀ j : Nat, j < 5 → (Cond.eq (.elem (.field (.string "RaftForestModel" 390) "java/lang/String" "value" "[B") (.int (Int32.ofNat j))) (.int (sb_22.getD j 0)) : Cond) ∈ flat1 := by decide +kernel
theorem sr_23 : (Cond.stringRef "RaftForestModel" 392 "mine" : Cond) ∈ lw_tbl := List.mem_append_right _ (List.mem_of_getElem? (i := 1484) (by decide +kernel))
theorem se_23 : (Cond.exactly (.string "RaftForestModel" 392) "java/lang/String" : Cond) ∈ flat1 := by decide +kernel
theorem sc_23 : (Cond.eq (.field (.string "RaftForestModel" 392) "java/lang/String" "coder" "B") (.int 0) : Cond) ∈ flat1 := by decide +kernel
theorem sa_23 : (Cond.arrayOf (.field (.string "RaftForestModel" 392) "java/lang/String" "value" "[B") .byte : Cond) ∈ flat1 := by decide +kernel
theorem sl_23 : (Cond.eq (.length (.field (.string "RaftForestModel" 392) "java/lang/String" "value" "[B")) (.int (Int32.ofNat 4)) : Cond) ∈ flat1 := by decide +kernel
def sb_23 : List Int32 := [109, 105, 110, 101]
theorem sm_23 : ∀ j : Nat, j < 4 → (Cond.eq (.elem (.field (.string "RaftForestModel" 392) "java/lang/String" "value" "[B") (.int (Int32.ofNat j))) (.int (sb_23.getD j 0)) : Cond) ∈ flat1 := by decide +kernel
theorem sr_24 : (Cond.stringRef "RaftForestModel" 397 "if" : Cond) ∈ lw_tbl := List.mem_append_right _ (List.mem_of_getElem? (i := 1518) (by decide +kernel))
theorem se_24 : (Cond.exactly (.string "RaftForestModel" 397) "java/lang/String" : Cond) ∈ flat1 := by decide +kernel
theorem sc_24 : (Cond.eq (.field (.string "RaftForestModel" 397) "java/lang/String" "coder" "B") (.int 0) : Cond) ∈ flat1 := by decide +kernel
theorem sa_24 : (Cond.arrayOf (.field (.string "RaftForestModel" 397) "java/lang/String" "value" "[B") .byte : Cond) ∈ flat1 := by decide +kernel
theorem sl_24 : (Cond.eq (.length (.field (.string "RaftForestModel" 397) "java/lang/String" "value" "[B")) (.int (Int32.ofNat 2)) : Cond) ∈ flat1 := by decide +kernel
def sb_24 : List Int32 := [105, 102]
theorem sm_24 : ∀ j : Nat, j < 2 → (Cond.eq (.elem (.field (.string "RaftForestModel" 397) "java/lang/String" "value" "[B") (.int (Int32.ofNat j))) (.int (sb_24.getD j 0)) : Cond) ∈ flat1 := by decide +kernel
theorem sr_25 : (Cond.stringRef "RaftForest$RiverReader" 34 "river village width wood log toll" : Cond) ∈ lw_tbl := List.mem_append_right _ (List.mem_of_getElem? (i := 491) (by decide +kernel))
theorem se_25 : (Cond.exactly (.string "RaftForest$RiverReader" 34) "java/lang/String" : Cond) ∈ flat1 := by decide +kernel
theorem sc_25 : (Cond.eq (.field (.string "RaftForest$RiverReader" 34) "java/lang/String" "coder" "B") (.int 0) : Cond) ∈ flat1 := by decide +kernel
theorem sa_25 : (Cond.arrayOf (.field (.string "RaftForest$RiverReader" 34) "java/lang/String" "value" "[B") .byte : Cond) ∈ flat1 := by decide +kernel
theorem sl_25 : (Cond.eq (.length (.field (.string "RaftForest$RiverReader" 34) "java/lang/String" "value" "[B")) (.int (Int32.ofNat 33)) : Cond) ∈ flat1 := by decide +kernel
def sb_25 : List Int32 := [114, 105, 118, 101, 114, 32, 118, 105, 108, 108, 97, 103, 101, 32, 119, 105, 100, 116, 104, 32, 119, 111, 111, 100, 32, 108, 111, 103, 32, 116, 111, 108, 108]
theorem sm_25 : ∀ j : Nat, j < 33 → (Cond.eq (.elem (.field (.string "RaftForest$RiverReader" 34) "java/lang/String" "value" "[B") (.int (Int32.ofNat j))) (.int (sb_25.getD j 0)) : Cond) ∈ flat1 := by decide +kernel
theorem sr_26 : (Cond.stringRef "RaftForest$RuleReader" 29 "jam take add elect mine" : Cond) ∈ lw_tbl := List.mem_append_right _ (List.mem_of_getElem? (i := 612) (by decide +kernel))
theorem se_26 : (Cond.exactly (.string "RaftForest$RuleReader" 29) "java/lang/String" : Cond) ∈ flat1 := by decide +kernel
theorem sc_26 : (Cond.eq (.field (.string "RaftForest$RuleReader" 29) "java/lang/String" "coder" "B") (.int 0) : Cond) ∈ flat1 := by decide +kernel
theorem sa_26 : (Cond.arrayOf (.field (.string "RaftForest$RuleReader" 29) "java/lang/String" "value" "[B") .byte : Cond) ∈ flat1 := by decide +kernel
theorem sl_26 : (Cond.eq (.length (.field (.string "RaftForest$RuleReader" 29) "java/lang/String" "value" "[B")) (.int (Int32.ofNat 23)) : Cond) ∈ flat1 := by decide +kernel
def sb_26 : List Int32 := [106, 97, 109, 32, 116, 97, 107, 101, 32, 97, 100, 100, 32, 101, 108, 101, 99, 116, 32, 109, 105, 110, 101]
theorem sm_26 : ∀ j : Nat, j < 23 → (Cond.eq (.elem (.field (.string "RaftForest$RuleReader" 29) "java/lang/String" "value" "[B") (.int (Int32.ofNat j))) (.int (sb_26.getD j 0)) : Cond) ∈ flat1 := by decide +kernel
theorem sr_27 : (Cond.stringRef "RaftForest$RuleReader" 50 "if" : Cond) ∈ lw_tbl := List.mem_append_right _ (List.mem_of_getElem? (i := 636) (by decide +kernel))
theorem se_27 : (Cond.exactly (.string "RaftForest$RuleReader" 50) "java/lang/String" : Cond) ∈ flat1 := by decide +kernel
theorem sc_27 : (Cond.eq (.field (.string "RaftForest$RuleReader" 50) "java/lang/String" "coder" "B") (.int 0) : Cond) ∈ flat1 := by decide +kernel
theorem sa_27 : (Cond.arrayOf (.field (.string "RaftForest$RuleReader" 50) "java/lang/String" "value" "[B") .byte : Cond) ∈ flat1 := by decide +kernel
theorem sl_27 : (Cond.eq (.length (.field (.string "RaftForest$RuleReader" 50) "java/lang/String" "value" "[B")) (.int (Int32.ofNat 2)) : Cond) ∈ flat1 := by decide +kernel
def sb_27 : List Int32 := [105, 102]
theorem sm_27 : ∀ j : Nat, j < 2 → (Cond.eq (.elem (.field (.string "RaftForest$RuleReader" 50) "java/lang/String" "value" "[B") (.int (Int32.ofNat j))) (.int (sb_27.getD j 0)) : Cond) ∈ flat1 := by decide +kernel
theorem sr_28 : (Cond.stringRef "RaftForest$RuleReader" 73 "and" : Cond) ∈ lw_tbl := List.mem_append_right _ (List.mem_of_getElem? (i := 659) (by decide +kernel))
theorem se_28 : (Cond.exactly (.string "RaftForest$RuleReader" 73) "java/lang/String" : Cond) ∈ flat1 := by decide +kernel
theorem sc_28 : (Cond.eq (.field (.string "RaftForest$RuleReader" 73) "java/lang/String" "coder" "B") (.int 0) : Cond) ∈ flat1 := by decide +kernel
theorem sa_28 : (Cond.arrayOf (.field (.string "RaftForest$RuleReader" 73) "java/lang/String" "value" "[B") .byte : Cond) ∈ flat1 := by decide +kernel
theorem sl_28 : (Cond.eq (.length (.field (.string "RaftForest$RuleReader" 73) "java/lang/String" "value" "[B")) (.int (Int32.ofNat 3)) : Cond) ∈ flat1 := by decide +kernel
def sb_28 : List Int32 := [97, 110, 100]
theorem sm_28 : ∀ j : Nat, j < 3 → (Cond.eq (.elem (.field (.string "RaftForest$RuleReader" 73) "java/lang/String" "value" "[B") (.int (Int32.ofNat j))) (.int (sb_28.getD j 0)) : Cond) ∈ flat1 := by decide +kernel
theorem sr_29 : (Cond.stringRef "RaftForest$RuleReader" 75 "or" : Cond) ∈ lw_tbl := List.mem_append_right _ (List.mem_of_getElem? (i := 660) (by decide +kernel))
theorem se_29 : (Cond.exactly (.string "RaftForest$RuleReader" 75) "java/lang/String" : Cond) ∈ flat1 := by decide +kernel
theorem sc_29 : (Cond.eq (.field (.string "RaftForest$RuleReader" 75) "java/lang/String" "coder" "B") (.int 0) : Cond) ∈ flat1 := by decide +kernel
theorem sa_29 : (Cond.arrayOf (.field (.string "RaftForest$RuleReader" 75) "java/lang/String" "value" "[B") .byte : Cond) ∈ flat1 := by decide +kernel
theorem sl_29 : (Cond.eq (.length (.field (.string "RaftForest$RuleReader" 75) "java/lang/String" "value" "[B")) (.int (Int32.ofNat 2)) : Cond) ∈ flat1 := by decide +kernel
def sb_29 : List Int32 := [111, 114]
theorem sm_29 : ∀ j : Nat, j < 2 → (Cond.eq (.elem (.field (.string "RaftForest$RuleReader" 75) "java/lang/String" "value" "[B") (.int (Int32.ofNat j))) (.int (sb_29.getD j 0)) : Cond) ∈ flat1 := by decide +kernel
theorem sr_30 : (Cond.stringRef "RaftForest$RuleReader" 77 "not" : Cond) ∈ lw_tbl := List.mem_append_right _ (List.mem_of_getElem? (i := 650) (by decide +kernel))
theorem se_30 : (Cond.exactly (.string "RaftForest$RuleReader" 77) "java/lang/String" : Cond) ∈ flat1 := by decide +kernel
theorem sc_30 : (Cond.eq (.field (.string "RaftForest$RuleReader" 77) "java/lang/String" "coder" "B") (.int 0) : Cond) ∈ flat1 := by decide +kernel
theorem sa_30 : (Cond.arrayOf (.field (.string "RaftForest$RuleReader" 77) "java/lang/String" "value" "[B") .byte : Cond) ∈ flat1 := by decide +kernel
theorem sl_30 : (Cond.eq (.length (.field (.string "RaftForest$RuleReader" 77) "java/lang/String" "value" "[B")) (.int (Int32.ofNat 3)) : Cond) ∈ flat1 := by decide +kernel
def sb_30 : List Int32 := [110, 111, 116]
theorem sm_30 : ∀ j : Nat, j < 3 → (Cond.eq (.elem (.field (.string "RaftForest$RuleReader" 77) "java/lang/String" "value" "[B") (.int (Int32.ofNat j))) (.int (sb_30.getD j 0)) : Cond) ∈ flat1 := by decide +kernel
theorem sr_31 : (Cond.stringRef "RaftForest$RuleReader" 96 "log wood length rings bend village owner felled last notches room water day" : Cond) ∈ lw_tbl := List.mem_append_right _ (List.mem_of_getElem? (i := 634) (by decide +kernel))
theorem se_31 : (Cond.exactly (.string "RaftForest$RuleReader" 96) "java/lang/String" : Cond) ∈ flat1 := by decide +kernel
theorem sc_31 : (Cond.eq (.field (.string "RaftForest$RuleReader" 96) "java/lang/String" "coder" "B") (.int 0) : Cond) ∈ flat1 := by decide +kernel
theorem sa_31 : (Cond.arrayOf (.field (.string "RaftForest$RuleReader" 96) "java/lang/String" "value" "[B") .byte : Cond) ∈ flat1 := by decide +kernel
theorem sl_31 : (Cond.eq (.length (.field (.string "RaftForest$RuleReader" 96) "java/lang/String" "value" "[B")) (.int (Int32.ofNat 75)) : Cond) ∈ flat1 := by decide +kernel
def sb_31 : List Int32 := [108, 111, 103, 32, 119, 111, 111, 100, 32, 108, 101, 110, 103, 116, 104, 32, 114, 105, 110, 103, 115, 32, 98, 101, 110, 100, 32, 118, 105, 108, 108, 97, 103, 101, 32, 111, 119, 110, 101, 114, 32, 102, 101, 108, 108, 101, 100, 32, 108, 97, 115, 116, 32, 110, 111, 116, 99, 104, 101, 115, 32, 114, 111, 111, 109, 32, 119, 97, 116, 101, 114, 32, 100, 97, 121]
theorem sm_31 : ∀ j : Nat, j < 75 → (Cond.eq (.elem (.field (.string "RaftForest$RuleReader" 96) "java/lang/String" "value" "[B") (.int (Int32.ofNat j))) (.int (sb_31.getD j 0)) : Cond) ∈ flat1 := by decide +kernel
