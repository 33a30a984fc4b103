/-! rows of the Strings -/
section GS
variable {Γ : Gam} {x : Cx} {cc : ByteArray} {nL : Nat} {own : String} {fr lo : Nat} {Q : State → Prop} {M : zM} {pc n : Nat} {lv : List (Nat × Value)} {st : List Value}
theorem g_aload_nR (hx : Ok Γ x cc nL own fr lo) {q : Fin 4} {a : Nat} (j : Nat) (d : decode cc pc = .ok (.aload_n q, 1)) (hv : lv[j]? = some ((q : Nat), .ref a)) (hn : pc + 1 = n) (kk : G Γ x nL Q M n lv (.ref a :: st)) : G Γ x nL Q M pc lv st := by
  subst hn; intro H locs ls hH hS hl; exact lv_aload_n hx.1 hx.2.1 d rfl (lv_at hl j hv) (kk H locs ls hH hS hl)
theorem g_compact (hx : Ok Γ x cc nL own fr lo) {index : Nat} (w : Cond.fieldLink own index "java/lang/String" "COMPACT_STRINGS" "Z" ∈ wsB) (d : decode cc pc = .ok (.getstatic index, 3)) (hn : pc + 3 = n) (kk : G Γ x nL Q M n lv (vI 1 :: st)) : G Γ x nL Q M pc lv st := by
  subst hn; intro H locs ls hH hS hl
  exact va_gets hx.1 hx.2.1 hx.2.2.2.2.2.2.2.1.1.1 hS hx.2.2.2.1 (hx.2.2.2.2.1 _ w) (fun _ h => h) d (kk H locs ls hH hS hl)
theorem g_former (hx : Ok Γ x cc nL own fr lo) {index : Nat} (w : Cond.fieldLink own index "jdk/internal/util/Preconditions" "SIOOBE_FORMATTER" "Ljava/util/function/BiFunction;" ∈ wsB) (d : decode cc pc = .ok (.getstatic index, 3)) (hn : pc + 3 = n) (k1 : G Γ x nL Q M n lv (.null :: st)) (k2 : ∀ t : Nat, G Γ x nL Q M n lv (.ref t :: st)) : G Γ x nL Q M pc lv st := by
  subst hn; intro H locs ls hH hS hl
  rcases hx.2.2.2.2.2.2.2.1.1.2 with h | ⟨t, h⟩
  · exact va_gets hx.1 hx.2.1 h hS hx.2.2.2.1 (hx.2.2.2.2.1 _ w) (fun _ h => h) d (k1 H locs ls hH hS hl)
  · exact va_gets hx.1 hx.2.1 h hS hx.2.2.2.1 (hx.2.2.2.2.1 _ w) (fun _ h => h) d (k2 t H locs ls hH hS hl)
theorem g_coder (hx : Ok Γ x cc nL own fr lo) {index i : Nat} {r : String × Nat × String × Nat} (hi : sN[i]? = some r) (w : Cond.fieldLink own index "java/lang/String" "coder" "B" ∈ wsB) (d : decode cc pc = .ok (.getfield index, 3)) (hn : pc + 3 = n) (kk : G Γ x nL Q M n lv (vI 0 :: st)) : G Γ x nL Q M pc lv (sR Γ i :: st) := by
  subst hn; intro H locs ls hH hS hl
  exact vk_getf hx.1 hx.2.1 (hx.2.2.2.2.2.2.2.1.2 i r hi).2.2.1 hS hx.2.2.2.1 (hx.2.2.2.2.1 _ w) (fun _ h => h) d (kk H locs ls hH hS hl)
theorem g_value (hx : Ok Γ x cc nL own fr lo) {index i : Nat} {r : String × Nat × String × Nat} (hi : sN[i]? = some r) (w : Cond.fieldLink own index "java/lang/String" "value" "[B" ∈ wsB) (d : decode cc pc = .ok (.getfield index, 3)) (hn : pc + 3 = n) (kk : G Γ x nL Q M n lv (.ref (gs Γ (2 * i + 1)) :: st)) : G Γ x nL Q M pc lv (sR Γ i :: st) := by
  subst hn; intro H locs ls hH hS hl
  exact vk_getf hx.1 hx.2.1 (hx.2.2.2.2.2.2.2.1.2 i r hi).2.2.2.1 hS hx.2.2.2.1 (hx.2.2.2.2.1 _ w) (fun _ h => h) d (kk H locs ls hH hS hl)
theorem g_tlen (hx : Ok Γ x cc nL own fr lo) {i : Nat} {r : String × Nat × String × Nat} (hi : sN[i]? = some r) (d : decode cc pc = .ok (.arraylength, 1)) (hn : pc + 1 = n) (kk : G Γ x nL Q M n lv (vI r.2.2.2 :: st)) : G Γ x nL Q M pc lv (.ref (gs Γ (2 * i + 1)) :: st) := by
  subst hn; intro H locs ls hH hS hl
  exact va_tlen (v := Int32.ofInt r.2.2.2) hx.1 hx.2.1 (hx.2.2.2.2.2.2.2.1.2 i r hi).2.2.2.2 hS rfl d (kk H locs ls hH hS hl)
theorem g_tald (hx : Ok Γ x cc nL own fr lo) {i : Nat} {k : Int} {r : String × Nat × String × Nat} (hi : sN[i]? = some r) (d : decode cc pc = .ok (.baload, 1)) (hn : pc + 1 = n) (h0 : 0 ≤ k) (h1 : k < r.2.2.2) (h2 : k ≤ 2147483647) (kk : ∀ z, zR z → G Γ x nL Q M n lv (vI z :: st)) : G Γ x nL Q M pc lv (vI k :: .ref (gs Γ (2 * i + 1)) :: st) := by
  subst hn; intro H locs ls hH hS hl
  exact va_tb hx.1 hx.2.1 (hx.2.2.2.2.2.2.2.1.2 i r hi).2.2.2.2 hS (inI h0 h1 h2) rfl d (g_anyI kk H locs ls hH hS hl)
theorem obS {H : Heap} {locs : List Loc} {i : Nat} {r : String × Nat × String × Nat} {As : List Value} (hx : Ok Γ x cc nL own fr lo) (hi : sN[i]? = some r) (hH : Hp (gD Γ) (gk Γ) (ga Γ) M H) (hS : va_S (xA Γ x) (xs x).heap H locs) : PreV (xs x) H "java/lang/String" (gs Γ (2 * i)) (va_Pc (sR Γ i :: As) (PRW Γ M H.size)) As := by
  obtain ⟨cell, h1, h2, h3, -⟩ := (hx.2.2.2.2.2.2.2.1.2 i r hi).2.1.kept hS.2.1
  have hp := pre_of (av := sR Γ i :: As) hx hH hS
  exact ⟨hp.1, ⟨cell, h1, h2, h3⟩, hp.2⟩
theorem g_ishr0 (hx : Ok Γ x cc nL own fr lo) {a : Int} (d : decode cc pc = .ok (.ishr, 1)) (hn : pc + 1 = n) (kk : G Γ x nL Q M n lv (vI a :: st)) : G Γ x nL Q M pc lv (vI 0 :: vI a :: st) := by
  subst hn; intro H locs ls hH hS hl
  refine lv_ishr hx.1 hx.2.1 d ?_
  rw [show Int32.ofInt a >>> (Int32.ofInt 0 &&& 31) = Int32.ofInt a from sb_shr0 _]
  exact kk H locs ls hH hS hl
theorem chI {v : Int} (h0 : 0 ≤ v) (h1 : v ≤ 65535) : ((Int32.ofInt v).toUInt32 % 65536).toInt32 = Int32.ofInt v := by
  apply Int32.toInt_inj.mp
  have e1 : (Int32.ofInt v).toBitVec.toNat = v.toNat := bvn h0 (by omega)
  have e2 : (((Int32.ofInt v).toUInt32 % 65536).toInt32).toBitVec.toNat = v.toNat := by
    show ((Int32.ofInt v).toUInt32 % 65536).toNat = _
    rw [UInt32.toNat_mod]
    show (Int32.ofInt v).toBitVec.toNat % 65536 = _
    rw [e1]
    omega
  rw [bvi (by omega), bvi (by omega), e1, e2]
theorem g_i2cI (hx : Ok Γ x cc nL own fr lo) {a : Int} (d : decode cc pc = .ok (.i2c, 1)) (hn : pc + 1 = n) (h0 : 0 ≤ a) (h1 : a ≤ 65535) (kk : G Γ x nL Q M n lv (vI a :: st)) : G Γ x nL Q M pc lv (vI a :: st) := by
  subst hn; intro H locs ls hH hS hl
  exact lv_i2c hx.1 hx.2.1 d (chI h0 h1) (kk H locs ls hH hS hl)
theorem g_cret {post : Int → zM → Prop} {v : Int} (hx : Ok Γ x cc nL own fr lo) (hr : (xh x).sig.returnType = some .char) (d : decode cc pc = .ok (.ireturn, 1)) (h0 : 0 ≤ v) (h1 : v ≤ 65535) (hp : post v M) : G Γ x nL (QI Γ x post) M pc lv [vI v] := by
  intro H locs ls hH hS hl
  have hn : narrow .char (.int (Int32.ofInt v)) = .int (Int32.ofInt v) := by
    show Value.int ((Int32.ofInt v).toUInt32 % 65536).toInt32 = _
    rw [chI h0 h1]
  exact W.zret (ty := .char) hx.1 hx.2.1 hr hn (fun t ht hW => ⟨⟨_, M, rfl, ⟨v, rfl, ⟨by omega, by omega⟩, hp⟩, by show Hp _ _ _ M t.heap; rw [ht]; exact hH⟩, hS.F ht⟩) hS.2.2 d hx.2.2.2.2.2.2.2.2.2.1
theorem g_bret {post : Int → zM → Prop} (hx : Ok Γ x cc nL own fr lo) (hr : (xh x).sig.returnType = some .byte) (d : decode cc pc = .ok (.ireturn, 1)) (hp : post 0 M) : G Γ x nL (QI Γ x post) M pc lv [vI 0] := by
  intro H locs ls hH hS hl
  exact W.zret (ty := .byte) hx.1 hx.2.1 hr rfl (fun t ht hW => ⟨⟨_, M, rfl, ⟨0, rfl, ⟨by omega, by omega⟩, hp⟩, by show Hp _ _ _ M t.heap; rw [ht]; exact hH⟩, hS.F ht⟩) hS.2.2 d hx.2.2.2.2.2.2.2.2.2.1
variable {y : MethodName} {cy : ByteArray} {ny fy ly index : Nat} {ry : Option FieldType} {As rest st0 : List Value}
theorem g_callSt {post : Int → zM → Prop} {i : Nat} {r : String × Nat × String × Nat} (hx : Ok Γ x cc nL own fr lo) (C : CtI Γ y cy ny ry fy ly (sR Γ i :: As) M post) (L : LV own index y cy ny ry As.length) (hy : y.cls = "java/lang/String") (hi : sN[i]? = some r) (d : decode cc pc = .ok (.invokevirtual index, 3)) (hn : pc + 3 = n) (hf : fy + 1 ≤ fr) (hlo : 8 + (ny + 11) + ly ≤ lo) (hs : (rest.map fun v => v.category).sum ≤ 8) (hst : st0 = As.reverse ++ sR Γ i :: rest) (kk : ∀ z M', zR z → post z M' → G Γ x nL Q M' n lv (vI z :: rest)) : G Γ x nL Q M pc lv st0 := by
  subst hn; intro H locs ls hH hS hl
  have hR := hx.2.2.2.2.2.2.2.2.2.2
  obtain ⟨w1, w2, w3, w4, w5, w6⟩ := L
  refine va_calli (va_runV (As := As) (rest := rest) ⟨hx.1, hx.2.1, hx.2.2.1, hx.2.2.2.1, hx.2.2.2.2.1⟩ (C H.size) (cwV As.length hx.2.2.2.2.1 (gV w1 w2 w3 w4 w5) rfl rfl rfl ⟨rfl, w6⟩ ⟨by rw [hR]; exact hf, by rw [hR]; exact hlo⟩) (by rw [hy]; exact obS hx hi hH hS) rfl rfl hl.1 hst (lv_room hs) d ⟨Nat.zero_le _, Nat.zero_le _⟩) hS (fun q _ h => AA_sub hS.1 q h) (AA_sub hS.1) (fun r u t H1 locs1 ht _ hw hB _ _ hS1 => ?_)
  obtain ⟨z, rfl, hz, hpost⟩ := hw
  exact kk z u hz hpost H1 locs1 ls (by have hB' : Hp (gD Γ) (gk Γ) (ga Γ) u t.heap := hB; rw [ht] at hB'; exact hB') hS1 hl
end GS
theorem sNle : ∀ (i : Nat) (r : String × Nat × String × Nat), sN[i]? = some r → r.2.2.2 ≤ 100 := by
  have h : (sN.all fun r => decide (r.2.2.2 ≤ 100)) = true := by decide +kernel
  intro i r hi
  exact of_decide_eq_true (List.all_eq_true.mp h r (List.mem_of_getElem? hi))
