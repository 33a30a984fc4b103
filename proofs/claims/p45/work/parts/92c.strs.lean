def sb_15 : List Int32 := [111, 114]
theorem sm_15 : ∀ j : Nat, j < 2 → (Cond.eq (.elem (.field (.string "RaftForestModel" 340) "java/lang/String" "value" "[B") (.int (Int32.ofNat j))) (.int (sb_15.getD j 0)) : Cond) ∈ flat1
  | 0, _ => flm 407 rfl
  | 1, _ => flm 408 rfl
  | j + 2, h => absurd h (by omega)
theorem sr_16 : (Cond.stringRef "RaftForestModel" 342 "river" : Cond) ∈ lw_tbl := List.mem_append_right _ (show _ ∈ tables_1 from (List.mem_append_right _ (List.mem_append_right _ (List.mem_append_right _ (List.mem_append_right _ (List.mem_append_right _ (List.mem_append_left _ (List.mem_of_getElem? (i := 212) rfl))))))))
theorem se_16 : (Cond.exactly (.string "RaftForestModel" 342) "java/lang/String" : Cond) ∈ flat1 := flm 200 rfl
theorem sc_16 : (Cond.eq (.field (.string "RaftForestModel" 342) "java/lang/String" "coder" "B") (.int 0) : Cond) ∈ flat1 := flm 201 rfl
theorem sa_16 : (Cond.arrayOf (.field (.string "RaftForestModel" 342) "java/lang/String" "value" "[B") .byte : Cond) ∈ flat1 := flm 202 rfl
theorem sl_16 : (Cond.eq (.length (.field (.string "RaftForestModel" 342) "java/lang/String" "value" "[B")) (.int (Int32.ofNat 5)) : Cond) ∈ flat1 := flm 203 rfl
def sb_16 : List Int32 := [114, 105, 118, 101, 114]
theorem sm_16 : ∀ j : Nat, j < 5 → (Cond.eq (.elem (.field (.string "RaftForestModel" 342) "java/lang/String" "value" "[B") (.int (Int32.ofNat j))) (.int (sb_16.getD j 0)) : Cond) ∈ flat1
  | 0, _ => flm 204 rfl
  | 1, _ => flm 205 rfl
  | 2, _ => flm 206 rfl
  | 3, _ => flm 207 rfl
  | 4, _ => flm 208 rfl
  | j + 5, h => absurd h (by omega)
theorem sr_17 : (Cond.stringRef "RaftForestModel" 344 "width" : Cond) ∈ lw_tbl := List.mem_append_right _ (show _ ∈ tables_1 from (List.mem_append_right _ (List.mem_append_right _ (List.mem_append_right _ (List.mem_append_right _ (List.mem_append_right _ (List.mem_append_left _ (List.mem_of_getElem? (i := 214) rfl))))))))
theorem se_17 : (Cond.exactly (.string "RaftForestModel" 344) "java/lang/String" : Cond) ∈ flat1 := flm 220 rfl
theorem sc_17 : (Cond.eq (.field (.string "RaftForestModel" 344) "java/lang/String" "coder" "B") (.int 0) : Cond) ∈ flat1 := flm 221 rfl
theorem sa_17 : (Cond.arrayOf (.field (.string "RaftForestModel" 344) "java/lang/String" "value" "[B") .byte : Cond) ∈ flat1 := flm 222 rfl
theorem sl_17 : (Cond.eq (.length (.field (.string "RaftForestModel" 344) "java/lang/String" "value" "[B")) (.int (Int32.ofNat 5)) : Cond) ∈ flat1 := flm 223 rfl
def sb_17 : List Int32 := [119, 105, 100, 116, 104]
theorem sm_17 : ∀ j : Nat, j < 5 → (Cond.eq (.elem (.field (.string "RaftForestModel" 344) "java/lang/String" "value" "[B") (.int (Int32.ofNat j))) (.int (sb_17.getD j 0)) : Cond) ∈ flat1
  | 0, _ => flm 224 rfl
  | 1, _ => flm 225 rfl
  | 2, _ => flm 226 rfl
  | 3, _ => flm 227 rfl
  | 4, _ => flm 228 rfl
  | j + 5, h => absurd h (by omega)
theorem sr_18 : (Cond.stringRef "RaftForestModel" 345 "toll" : Cond) ∈ lw_tbl := List.mem_append_right _ (show _ ∈ tables_1 from (List.mem_append_right _ (List.mem_append_right _ (List.mem_append_right _ (List.mem_append_right _ (List.mem_append_right _ (List.mem_append_left _ (List.mem_of_getElem? (i := 217) rfl))))))))
theorem se_18 : (Cond.exactly (.string "RaftForestModel" 345) "java/lang/String" : Cond) ∈ flat1 := flm 244 rfl
theorem sc_18 : (Cond.eq (.field (.string "RaftForestModel" 345) "java/lang/String" "coder" "B") (.int 0) : Cond) ∈ flat1 := flm 245 rfl
theorem sa_18 : (Cond.arrayOf (.field (.string "RaftForestModel" 345) "java/lang/String" "value" "[B") .byte : Cond) ∈ flat1 := flm 246 rfl
theorem sl_18 : (Cond.eq (.length (.field (.string "RaftForestModel" 345) "java/lang/String" "value" "[B")) (.int (Int32.ofNat 4)) : Cond) ∈ flat1 := flm 247 rfl
def sb_18 : List Int32 := [116, 111, 108, 108]
theorem sm_18 : ∀ j : Nat, j < 4 → (Cond.eq (.elem (.field (.string "RaftForestModel" 345) "java/lang/String" "value" "[B") (.int (Int32.ofNat j))) (.int (sb_18.getD j 0)) : Cond) ∈ flat1
  | 0, _ => flm 248 rfl
  | 1, _ => flm 249 rfl
  | 2, _ => flm 250 rfl
  | 3, _ => flm 251 rfl
  | j + 4, h => absurd h (by omega)
theorem sr_19 : (Cond.stringRef "RaftForestModel" 384 "jam" : Cond) ∈ lw_tbl := List.mem_append_right _ (show _ ∈ tables_1 from (List.mem_append_right _ (List.mem_append_right _ (List.mem_append_right _ (List.mem_append_right _ (List.mem_append_right _ (List.mem_append_right _ (List.mem_append_left _ (List.mem_of_getElem? (i := 40) rfl)))))))))
theorem se_19 : (Cond.exactly (.string "RaftForestModel" 384) "java/lang/String" : Cond) ∈ flat1 := flm 252 rfl
theorem sc_19 : (Cond.eq (.field (.string "RaftForestModel" 384) "java/lang/String" "coder" "B") (.int 0) : Cond) ∈ flat1 := flm 253 rfl
theorem sa_19 : (Cond.arrayOf (.field (.string "RaftForestModel" 384) "java/lang/String" "value" "[B") .byte : Cond) ∈ flat1 := flm 254 rfl
theorem sl_19 : (Cond.eq (.length (.field (.string "RaftForestModel" 384) "java/lang/String" "value" "[B")) (.int (Int32.ofNat 3)) : Cond) ∈ flat1 := flm 255 rfl
def sb_19 : List Int32 := [106, 97, 109]
theorem sm_19 : ∀ j : Nat, j < 3 → (Cond.eq (.elem (.field (.string "RaftForestModel" 384) "java/lang/String" "value" "[B") (.int (Int32.ofNat j))) (.int (sb_19.getD j 0)) : Cond) ∈ flat1
  | 0, _ => flm 256 rfl
  | 1, _ => flm 257 rfl
  | 2, _ => flm 258 rfl
  | j + 3, h => absurd h (by omega)
theorem sr_20 : (Cond.stringRef "RaftForestModel" 386 "take" : Cond) ∈ lw_tbl := List.mem_append_right _ (show _ ∈ tables_1 from (List.mem_append_right _ (List.mem_append_right _ (List.mem_append_right _ (List.mem_append_right _ (List.mem_append_right _ (List.mem_append_right _ (List.mem_append_left _ (List.mem_of_getElem? (i := 41) rfl)))))))))
theorem se_20 : (Cond.exactly (.string "RaftForestModel" 386) "java/lang/String" : Cond) ∈ flat1 := flm 259 rfl
theorem sc_20 : (Cond.eq (.field (.string "RaftForestModel" 386) "java/lang/String" "coder" "B") (.int 0) : Cond) ∈ flat1 := flm 260 rfl
theorem sa_20 : (Cond.arrayOf (.field (.string "RaftForestModel" 386) "java/lang/String" "value" "[B") .byte : Cond) ∈ flat1 := flm 261 rfl
theorem sl_20 : (Cond.eq (.length (.field (.string "RaftForestModel" 386) "java/lang/String" "value" "[B")) (.int (Int32.ofNat 4)) : Cond) ∈ flat1 := flm 262 rfl
def sb_20 : List Int32 := [116, 97, 107, 101]
theorem sm_20 : ∀ j : Nat, j < 4 → (Cond.eq (.elem (.field (.string "RaftForestModel" 386) "java/lang/String" "value" "[B") (.int (Int32.ofNat j))) (.int (sb_20.getD j 0)) : Cond) ∈ flat1
  | 0, _ => flm 263 rfl
  | 1, _ => flm 264 rfl
  | 2, _ => flm 265 rfl
  | 3, _ => flm 266 rfl
  | j + 4, h => absurd h (by omega)
theorem sr_21 : (Cond.stringRef "RaftForestModel" 388 "add" : Cond) ∈ lw_tbl := List.mem_append_right _ (show _ ∈ tables_1 from (List.mem_append_right _ (List.mem_append_right _ (List.mem_append_right _ (List.mem_append_right _ (List.mem_append_right _ (List.mem_append_right _ (List.mem_append_left _ (List.mem_of_getElem? (i := 42) rfl)))))))))
theorem se_21 : (Cond.exactly (.string "RaftForestModel" 388) "java/lang/String" : Cond) ∈ flat1 := flm 267 rfl
theorem sc_21 : (Cond.eq (.field (.string "RaftForestModel" 388) "java/lang/String" "coder" "B") (.int 0) : Cond) ∈ flat1 := flm 268 rfl
theorem sa_21 : (Cond.arrayOf (.field (.string "RaftForestModel" 388) "java/lang/String" "value" "[B") .byte : Cond) ∈ flat1 := flm 269 rfl
theorem sl_21 : (Cond.eq (.length (.field (.string "RaftForestModel" 388) "java/lang/String" "value" "[B")) (.int (Int32.ofNat 3)) : Cond) ∈ flat1 := flm 270 rfl
def sb_21 : List Int32 := [97, 100, 100]
theorem sm_21 : ∀ j : Nat, j < 3 → (Cond.eq (.elem (.field (.string "RaftForestModel" 388) "java/lang/String" "value" "[B") (.int (Int32.ofNat j))) (.int (sb_21.getD j 0)) : Cond) ∈ flat1
  | 0, _ => flm 271 rfl
  | 1, _ => flm 272 rfl
  | 2, _ => flm 273 rfl
  | j + 3, h => absurd h (by omega)
theorem sr_22 : (Cond.stringRef "RaftForestModel" 390 "elect" : Cond) ∈ lw_tbl := List.mem_append_right _ (show _ ∈ tables_1 from (List.mem_append_right _ (List.mem_append_right _ (List.mem_append_right _ (List.mem_append_right _ (List.mem_append_right _ (List.mem_append_right _ (List.mem_append_left _ (List.mem_of_getElem? (i := 43) rfl)))))))))
theorem se_22 : (Cond.exactly (.string "RaftForestModel" 390) "java/lang/String" : Cond) ∈ flat1 := flm 274 rfl
theorem sc_22 : (Cond.eq (.field (.string "RaftForestModel" 390) "java/lang/String" "coder" "B") (.int 0) : Cond) ∈ flat1 := flm 275 rfl
theorem sa_22 : (Cond.arrayOf (.field (.string "RaftForestModel" 390) "java/lang/String" "value" "[B") .byte : Cond) ∈ flat1 := flm 276 rfl
theorem sl_22 : (Cond.eq (.length (.field (.string "RaftForestModel" 390) "java/lang/String" "value" "[B")) (.int (Int32.ofNat 5)) : Cond) ∈ flat1 := flm 277 rfl
def sb_22 : List Int32 := [101, 108, 101, 99, 116]
theorem sm_22 : ∀ j : Nat, j < 5 → (Cond.eq (.elem (.field (.string "RaftForestModel" 390) "java/lang/String" "value" "[B") (.int (Int32.ofNat j))) (.int (sb_22.getD j 0)) : Cond) ∈ flat1
  | 0, _ => flm 278 rfl
  | 1, _ => flm 279 rfl
  | 2, _ => flm 280 rfl
  | 3, _ => flm 281 rfl
  | 4, _ => flm 282 rfl
  | j + 5, h => absurd h (by omega)
theorem sr_23 : (Cond.stringRef "RaftForestModel" 392 "mine" : Cond) ∈ lw_tbl := List.mem_append_right _ (show _ ∈ tables_1 from (List.mem_append_right _ (List.mem_append_right _ (List.mem_append_right _ (List.mem_append_right _ (List.mem_append_right _ (List.mem_append_right _ (List.mem_append_left _ (List.mem_of_getElem? (i := 44) rfl)))))))))
theorem se_23 : (Cond.exactly (.string "RaftForestModel" 392) "java/lang/String" : Cond) ∈ flat1 := flm 283 rfl
theorem sc_23 : (Cond.eq (.field (.string "RaftForestModel" 392) "java/lang/String" "coder" "B") (.int 0) : Cond) ∈ flat1 := flm 284 rfl
theorem sa_23 : (Cond.arrayOf (.field (.string "RaftForestModel" 392) "java/lang/String" "value" "[B") .byte : Cond) ∈ flat1 := flm 285 rfl
theorem sl_23 : (Cond.eq (.length (.field (.string "RaftForestModel" 392) "java/lang/String" "value" "[B")) (.int (Int32.ofNat 4)) : Cond) ∈ flat1 := flm 286 rfl
def sb_23 : List Int32 := [109, 105, 110, 101]
theorem sm_23 : ∀ j : Nat, j < 4 → (Cond.eq (.elem (.field (.string "RaftForestModel" 392) "java/lang/String" "value" "[B") (.int (Int32.ofNat j))) (.int (sb_23.getD j 0)) : Cond) ∈ flat1
  | 0, _ => flm 287 rfl
  | 1, _ => flm 288 rfl
  | 2, _ => flm 289 rfl
  | 3, _ => flm 290 rfl
  | j + 4, h => absurd h (by omega)
theorem sr_24 : (Cond.stringRef "RaftForestModel" 397 "if" : Cond) ∈ lw_tbl := List.mem_append_right _ (show _ ∈ tables_1 from (List.mem_append_right _ (List.mem_append_right _ (List.mem_append_right _ (List.mem_append_right _ (List.mem_append_right _ (List.mem_append_right _ (List.mem_append_left _ (List.mem_of_getElem? (i := 78) rfl)))))))))
theorem se_24 : (Cond.exactly (.string "RaftForestModel" 397) "java/lang/String" : Cond) ∈ flat1 := flm 380 rfl
theorem sc_24 : (Cond.eq (.field (.string "RaftForestModel" 397) "java/lang/String" "coder" "B") (.int 0) : Cond) ∈ flat1 := flm 381 rfl
theorem sa_24 : (Cond.arrayOf (.field (.string "RaftForestModel" 397) "java/lang/String" "value" "[B") .byte : Cond) ∈ flat1 := flm 382 rfl
theorem sl_24 : (Cond.eq (.length (.field (.string "RaftForestModel" 397) "java/lang/String" "value" "[B")) (.int (Int32.ofNat 2)) : Cond) ∈ flat1 := flm 383 rfl
def sb_24 : List Int32 := [105, 102]
theorem sm_24 : ∀ j : Nat, j < 2 → (Cond.eq (.elem (.field (.string "RaftForestModel" 397) "java/lang/String" "value" "[B") (.int (Int32.ofNat j))) (.int (sb_24.getD j 0)) : Cond) ∈ flat1
  | 0, _ => flm 384 rfl
  | 1, _ => flm 385 rfl
  | j + 2, h => absurd h (by omega)
theorem sr_25 : (Cond.stringRef "RaftForest$RiverReader" 34 "river village width wood log toll" : Cond) ∈ lw_tbl := List.mem_append_right _ (show _ ∈ tables_1 from (List.mem_append_right _ (List.mem_append_right _ (List.mem_append_left _ (List.mem_of_getElem? (i := 11) rfl)))))
theorem se_25 : (Cond.exactly (.string "RaftForest$RiverReader" 34) "java/lang/String" : Cond) ∈ flat1 := flm 31 rfl
theorem sc_25 : (Cond.eq (.field (.string "RaftForest$RiverReader" 34) "java/lang/String" "coder" "B") (.int 0) : Cond) ∈ flat1 := flm 32 rfl
theorem sa_25 : (Cond.arrayOf (.field (.string "RaftForest$RiverReader" 34) "java/lang/String" "value" "[B") .byte : Cond) ∈ flat1 := flm 33 rfl
theorem sl_25 : (Cond.eq (.length (.field (.string "RaftForest$RiverReader" 34) "java/lang/String" "value" "[B")) (.int (Int32.ofNat 33)) : Cond) ∈ flat1 := flm 34 rfl
def sb_25 : List Int32 := [114, 105, 118, 101, 114, 32, 118, 105, 108, 108, 97, 103, 101, 32, 119, 105, 100, 116, 104, 32, 119, 111, 111, 100, 32, 108, 111, 103, 32, 116, 111, 108, 108]
theorem sm_25 : ∀ j : Nat, j < 33 → (Cond.eq (.elem (.field (.string "RaftForest$RiverReader" 34) "java/lang/String" "value" "[B") (.int (Int32.ofNat j))) (.int (sb_25.getD j 0)) : Cond) ∈ flat1
  | 0, _ => flm 35 rfl
  | 1, _ => flm 36 rfl
  | 2, _ => flm 37 rfl
  | 3, _ => flm 38 rfl
  | 4, _ => flm 39 rfl
  | 5, _ => flm 40 rfl
  | 6, _ => flm 41 rfl
  | 7, _ => flm 42 rfl
  | 8, _ => flm 43 rfl
  | 9, _ => flm 44 rfl
  | 10, _ => flm 45 rfl
  | 11, _ => flm 46 rfl
  | 12, _ => flm 47 rfl
  | 13, _ => flm 48 rfl
  | 14, _ => flm 49 rfl
  | 15, _ => flm 50 rfl
  | 16, _ => flm 51 rfl
  | 17, _ => flm 52 rfl
  | 18, _ => flm 53 rfl
  | 19, _ => flm 54 rfl
  | 20, _ => flm 55 rfl
  | 21, _ => flm 56 rfl
  | 22, _ => flm 57 rfl
  | 23, _ => flm 58 rfl
  | 24, _ => flm 59 rfl
  | 25, _ => flm 60 rfl
  | 26, _ => flm 61 rfl
  | 27, _ => flm 62 rfl
  | 28, _ => flm 63 rfl
  | 29, _ => flm 64 rfl
  | 30, _ => flm 65 rfl
  | 31, _ => flm 66 rfl
  | 32, _ => flm 67 rfl
  | j + 33, h => absurd h (by omega)
theorem sr_26 : (Cond.stringRef "RaftForest$RuleReader" 29 "jam take add elect mine" : Cond) ∈ lw_tbl := List.mem_append_right _ (show _ ∈ tables_1 from (List.mem_append_right _ (List.mem_append_right _ (List.mem_append_left _ (List.mem_of_getElem? (i := 132) rfl)))))
theorem se_26 : (Cond.exactly (.string "RaftForest$RuleReader" 29) "java/lang/String" : Cond) ∈ flat1 := flm 68 rfl
theorem sc_26 : (Cond.eq (.field (.string "RaftForest$RuleReader" 29) "java/lang/String" "coder" "B") (.int 0) : Cond) ∈ flat1 := flm 69 rfl
theorem sa_26 : (Cond.arrayOf (.field (.string "RaftForest$RuleReader" 29) "java/lang/String" "value" "[B") .byte : Cond) ∈ flat1 := flm 70 rfl
theorem sl_26 : (Cond.eq (.length (.field (.string "RaftForest$RuleReader" 29) "java/lang/String" "value" "[B")) (.int (Int32.ofNat 23)) : Cond) ∈ flat1 := flm 71 rfl
def sb_26 : List Int32 := [106, 97, 109, 32, 116, 97, 107, 101, 32, 97, 100, 100, 32, 101, 108, 101, 99, 116, 32, 109, 105, 110, 101]
theorem sm_26 : ∀ j : Nat, j < 23 → (Cond.eq (.elem (.field (.string "RaftForest$RuleReader" 29) "java/lang/String" "value" "[B") (.int (Int32.ofNat j))) (.int (sb_26.getD j 0)) : Cond) ∈ flat1
  | 0, _ => flm 72 rfl
  | 1, _ => flm 73 rfl
  | 2, _ => flm 74 rfl
  | 3, _ => flm 75 rfl
  | 4, _ => flm 76 rfl
  | 5, _ => flm 77 rfl
  | 6, _ => flm 78 rfl
  | 7, _ => flm 79 rfl
  | 8, _ => flm 80 rfl
  | 9, _ => flm 81 rfl
  | 10, _ => flm 82 rfl
  | 11, _ => flm 83 rfl
  | 12, _ => flm 84 rfl
  | 13, _ => flm 85 rfl
  | 14, _ => flm 86 rfl
  | 15, _ => flm 87 rfl
  | 16, _ => flm 88 rfl
  | 17, _ => flm 89 rfl
  | 18, _ => flm 90 rfl
  | 19, _ => flm 91 rfl
  | 20, _ => flm 92 rfl
  | 21, _ => flm 93 rfl
  | 22, _ => flm 94 rfl
  | j + 23, h => absurd h (by omega)
theorem sr_27 : (Cond.stringRef "RaftForest$RuleReader" 50 "if" : Cond) ∈ lw_tbl := List.mem_append_right _ (show _ ∈ tables_1 from (List.mem_append_right _ (List.mem_append_right _ (List.mem_append_left _ (List.mem_of_getElem? (i := 156) rfl)))))
theorem se_27 : (Cond.exactly (.string "RaftForest$RuleReader" 50) "java/lang/String" : Cond) ∈ flat1 := flm 174 rfl
theorem sc_27 : (Cond.eq (.field (.string "RaftForest$RuleReader" 50) "java/lang/String" "coder" "B") (.int 0) : Cond) ∈ flat1 := flm 175 rfl
theorem sa_27 : (Cond.arrayOf (.field (.string "RaftForest$RuleReader" 50) "java/lang/String" "value" "[B") .byte : Cond) ∈ flat1 := flm 176 rfl
theorem sl_27 : (Cond.eq (.length (.field (.string "RaftForest$RuleReader" 50) "java/lang/String" "value" "[B")) (.int (Int32.ofNat 2)) : Cond) ∈ flat1 := flm 177 rfl
def sb_27 : List Int32 := [105, 102]
theorem sm_27 : ∀ j : Nat, j < 2 → (Cond.eq (.elem (.field (.string "RaftForest$RuleReader" 50) "java/lang/String" "value" "[B") (.int (Int32.ofNat j))) (.int (sb_27.getD j 0)) : Cond) ∈ flat1
  | 0, _ => flm 178 rfl
  | 1, _ => flm 179 rfl
  | j + 2, h => absurd h (by omega)
theorem sr_28 : (Cond.stringRef "RaftForest$RuleReader" 73 "and" : Cond) ∈ lw_tbl := List.mem_append_right _ (show _ ∈ tables_1 from (List.mem_append_right _ (List.mem_append_right _ (List.mem_append_left _ (List.mem_of_getElem? (i := 179) rfl)))))
theorem se_28 : (Cond.exactly (.string "RaftForest$RuleReader" 73) "java/lang/String" : Cond) ∈ flat1 := flm 187 rfl
theorem sc_28 : (Cond.eq (.field (.string "RaftForest$RuleReader" 73) "java/lang/String" "coder" "B") (.int 0) : Cond) ∈ flat1 := flm 188 rfl
theorem sa_28 : (Cond.arrayOf (.field (.string "RaftForest$RuleReader" 73) "java/lang/String" "value" "[B") .byte : Cond) ∈ flat1 := flm 189 rfl
theorem sl_28 : (Cond.eq (.length (.field (.string "RaftForest$RuleReader" 73) "java/lang/String" "value" "[B")) (.int (Int32.ofNat 3)) : Cond) ∈ flat1 := flm 190 rfl
def sb_28 : List Int32 := [97, 110, 100]
theorem sm_28 : ∀ j : Nat, j < 3 → (Cond.eq (.elem (.field (.string "RaftForest$RuleReader" 73) "java/lang/String" "value" "[B") (.int (Int32.ofNat j))) (.int (sb_28.getD j 0)) : Cond) ∈ flat1
  | 0, _ => flm 191 rfl
  | 1, _ => flm 192 rfl
  | 2, _ => flm 193 rfl
  | j + 3, h => absurd h (by omega)
theorem sr_29 : (Cond.stringRef "RaftForest$RuleReader" 75 "or" : Cond) ∈ lw_tbl := List.mem_append_right _ (show _ ∈ tables_1 from (List.mem_append_right _ (List.mem_append_right _ (List.mem_append_left _ (List.mem_of_getElem? (i := 180) rfl)))))
theorem se_29 : (Cond.exactly (.string "RaftForest$RuleReader" 75) "java/lang/String" : Cond) ∈ flat1 := flm 194 rfl
theorem sc_29 : (Cond.eq (.field (.string "RaftForest$RuleReader" 75) "java/lang/String" "coder" "B") (.int 0) : Cond) ∈ flat1 := flm 195 rfl
theorem sa_29 : (Cond.arrayOf (.field (.string "RaftForest$RuleReader" 75) "java/lang/String" "value" "[B") .byte : Cond) ∈ flat1 := flm 196 rfl
theorem sl_29 : (Cond.eq (.length (.field (.string "RaftForest$RuleReader" 75) "java/lang/String" "value" "[B")) (.int (Int32.ofNat 2)) : Cond) ∈ flat1 := flm 197 rfl
def sb_29 : List Int32 := [111, 114]
theorem sm_29 : ∀ j : Nat, j < 2 → (Cond.eq (.elem (.field (.string "RaftForest$RuleReader" 75) "java/lang/String" "value" "[B") (.int (Int32.ofNat j))) (.int (sb_29.getD j 0)) : Cond) ∈ flat1
  | 0, _ => flm 198 rfl
  | 1, _ => flm 199 rfl
  | j + 2, h => absurd h (by omega)
theorem sr_30 : (Cond.stringRef "RaftForest$RuleReader" 77 "not" : Cond) ∈ lw_tbl := List.mem_append_right _ (show _ ∈ tables_1 from (List.mem_append_right _ (List.mem_append_right _ (List.mem_append_left _ (List.mem_of_getElem? (i := 170) rfl)))))
theorem se_30 : (Cond.exactly (.string "RaftForest$RuleReader" 77) "java/lang/String" : Cond) ∈ flat1 := flm 180 rfl
theorem sc_30 : (Cond.eq (.field (.string "RaftForest$RuleReader" 77) "java/lang/String" "coder" "B") (.int 0) : Cond) ∈ flat1 := flm 181 rfl
theorem sa_30 : (Cond.arrayOf (.field (.string "RaftForest$RuleReader" 77) "java/lang/String" "value" "[B") .byte : Cond) ∈ flat1 := flm 182 rfl
theorem sl_30 : (Cond.eq (.length (.field (.string "RaftForest$RuleReader" 77) "java/lang/String" "value" "[B")) (.int (Int32.ofNat 3)) : Cond) ∈ flat1 := flm 183 rfl
def sb_30 : List Int32 := [110, 111, 116]
theorem sm_30 : ∀ j : Nat, j < 3 → (Cond.eq (.elem (.field (.string "RaftForest$RuleReader" 77) "java/lang/String" "value" "[B") (.int (Int32.ofNat j))) (.int (sb_30.getD j 0)) : Cond) ∈ flat1
  | 0, _ => flm 184 rfl
  | 1, _ => flm 185 rfl
  | 2, _ => flm 186 rfl
  | j + 3, h => absurd h (by omega)
theorem sr_31 : (Cond.stringRef "RaftForest$RuleReader" 96 "log wood length rings bend village owner felled last notches room water day" : Cond) ∈ lw_tbl := List.mem_append_right _ (show _ ∈ tables_1 from (List.mem_append_right _ (List.mem_append_right _ (List.mem_append_left _ (List.mem_of_getElem? (i := 154) rfl)))))
theorem se_31 : (Cond.exactly (.string "RaftForest$RuleReader" 96) "java/lang/String" : Cond) ∈ flat1 := flm 95 rfl
theorem sc_31 : (Cond.eq (.field (.string "RaftForest$RuleReader" 96) "java/lang/String" "coder" "B") (.int 0) : Cond) ∈ flat1 := flm 96 rfl
theorem sa_31 : (Cond.arrayOf (.field (.string "RaftForest$RuleReader" 96) "java/lang/String" "value" "[B") .byte : Cond) ∈ flat1 := flm 97 rfl
theorem sl_31 : (Cond.eq (.length (.field (.string "RaftForest$RuleReader" 96) "java/lang/String" "value" "[B")) (.int (Int32.ofNat 75)) : Cond) ∈ flat1 := flm 98 rfl
def sb_31 : List Int32 := [108, 111, 103, 32, 119, 111, 111, 100, 32, 108, 101, 110, 103, 116, 104, 32, 114, 105, 110, 103, 115, 32, 98, 101, 110, 100, 32, 118, 105, 108, 108, 97, 103, 101, 32, 111, 119, 110, 101, 114, 32, 102, 101, 108, 108, 101, 100, 32, 108, 97, 115, 116, 32, 110, 111, 116, 99, 104, 101, 115, 32, 114, 111, 111, 109, 32, 119, 97, 116, 101, 114, 32, 100, 97, 121]
theorem sm_31 : ∀ j : Nat, j < 75 → (Cond.eq (.elem (.field (.string "RaftForest$RuleReader" 96) "java/lang/String" "value" "[B") (.int (Int32.ofNat j))) (.int (sb_31.getD j 0)) : Cond) ∈ flat1
  | 0, _ => flm 99 rfl
  | 1, _ => flm 100 rfl
  | 2, _ => flm 101 rfl
  | 3, _ => flm 102 rfl
  | 4, _ => flm 103 rfl
  | 5, _ => flm 104 rfl
  | 6, _ => flm 105 rfl
  | 7, _ => flm 106 rfl
  | 8, _ => flm 107 rfl
  | 9, _ => flm 108 rfl
  | 10, _ => flm 109 rfl
  | 11, _ => flm 110 rfl
  | 12, _ => flm 111 rfl
  | 13, _ => flm 112 rfl
  | 14, _ => flm 113 rfl
  | 15, _ => flm 114 rfl
  | 16, _ => flm 115 rfl
  | 17, _ => flm 116 rfl
  | 18, _ => flm 117 rfl
  | 19, _ => flm 118 rfl
  | 20, _ => flm 119 rfl
  | 21, _ => flm 120 rfl
  | 22, _ => flm 121 rfl
  | 23, _ => flm 122 rfl
  | 24, _ => flm 123 rfl
  | 25, _ => flm 124 rfl
  | 26, _ => flm 125 rfl
  | 27, _ => flm 126 rfl
  | 28, _ => flm 127 rfl
  | 29, _ => flm 128 rfl
  | 30, _ => flm 129 rfl
  | 31, _ => flm 130 rfl
  | 32, _ => flm 131 rfl
  | 33, _ => flm 132 rfl
  | 34, _ => flm 133 rfl
  | 35, _ => flm 134 rfl
  | 36, _ => flm 135 rfl
  | 37, _ => flm 136 rfl
  | 38, _ => flm 137 rfl
  | 39, _ => flm 138 rfl
  | 40, _ => flm 139 rfl
  | 41, _ => flm 140 rfl
  | 42, _ => flm 141 rfl
  | 43, _ => flm 142 rfl
  | 44, _ => flm 143 rfl
  | 45, _ => flm 144 rfl
  | 46, _ => flm 145 rfl
  | 47, _ => flm 146 rfl
  | 48, _ => flm 147 rfl
  | 49, _ => flm 148 rfl
  | 50, _ => flm 149 rfl
  | 51, _ => flm 150 rfl
  | 52, _ => flm 151 rfl
  | 53, _ => flm 152 rfl
  | 54, _ => flm 153 rfl
  | 55, _ => flm 154 rfl
  | 56, _ => flm 155 rfl
  | 57, _ => flm 156 rfl
  | 58, _ => flm 157 rfl
  | 59, _ => flm 158 rfl
  | 60, _ => flm 159 rfl
  | 61, _ => flm 160 rfl
  | 62, _ => flm 161 rfl
  | 63, _ => flm 162 rfl
  | 64, _ => flm 163 rfl
  | 65, _ => flm 164 rfl
  | 66, _ => flm 165 rfl
  | 67, _ => flm 166 rfl
  | 68, _ => flm 167 rfl
  | 69, _ => flm 168 rfl
  | 70, _ => flm 169 rfl
  | 71, _ => flm 170 rfl
  | 72, _ => flm 171 rfl
  | 73, _ => flm 172 rfl
  | 74, _ => flm 173 rfl
  | j + 75, h => absurd h (by omega)
