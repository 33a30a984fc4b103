/-! bytes of a number, as both lay them behind the tape -/
def usI (a b : Int) : Int := ((Int32.ofInt a).toUInt32 >>> ((Int32.ofInt b).toUInt32 &&& Int32.toUInt32 31)).toInt32.toInt
def b8I (a : Int) : Int := (Int32.ofInt a).toInt8.toInt
section GB7
variable {Γ : Gam} {x : Cx} {cc : ByteArray} {nL fr lo pc n : Nat} {own : String} {Q : State → Prop} {M : zM} {lv : List (Nat × Value)} {st : List Value}
theorem g_iushrE (hx : Ok Γ x cc nL own fr lo) {a b : Int} (d : decode cc pc = .ok (.iushr, 1)) (hn : pc + 1 = n) (kk : ∀ z, zR z → z = usI a b → G Γ x nL Q M n lv (vI z :: st)) : G Γ x nL Q M pc lv (vI b :: vI a :: st) := by
  subst hn; intro H locs ls hH hS hl
  refine lv_iushr hx.1 hx.2.1 d rfl ?_
  have h := kk (usI a b) (rI _) rfl H locs ls hH hS hl
  rwa [show vI (usI a b) = .int ((Int32.ofInt a).toUInt32 >>> ((Int32.ofInt b).toUInt32 &&& Int32.toUInt32 31)).toInt32 from by show Value.int (Int32.ofInt (usI a b)) = _; unfold usI; rw [oI]] at h
theorem g_i2bE (hx : Ok Γ x cc nL own fr lo) {a : Int} (d : decode cc pc = .ok (.i2b, 1)) (hn : pc + 1 = n) (kk : ∀ z, -128 ≤ z → z ≤ 127 → z = b8I a → G Γ x nL Q M n lv (vI z :: st)) : G Γ x nL Q M pc lv (vI a :: st) := by
  subst hn; intro H locs ls hH hS hl
  refine lv_i2b hx.1 hx.2.1 d rfl ?_
  have h1 := Int8.le_toInt (Int32.ofInt a).toInt8
  have h2 := Int8.toInt_lt (Int32.ofInt a).toInt8
  have e : (Int32.ofInt a).toInt8.toInt32.toInt = (Int32.ofInt a).toInt8.toInt := Int8.toInt_toInt32 _
  have h := kk (Int32.ofInt a).toInt8.toInt32.toInt (by omega) (by omega) e H locs ls hH hS hl
  rwa [show vI (Int32.ofInt a).toInt8.toInt32.toInt = .int (Int32.ofInt a).toInt8.toInt32 from by show Value.int _ = _; rw [oI]] at h
end GB7
theorem bv_low (b : BitVec 32) (s : Nat) (hs : s ≤ 24) : ((b >>> s) &&& 255#32).toNat = (b.toNat >>> s) % 256 := by
  rw [BitVec.toNat_and, BitVec.toNat_ushiftRight]
  exact Nat.and_two_pow_sub_one_eq_mod (b.toNat >>> s) 8
theorem bv_sgn (b : BitVec 32) (s : Nat) (hs : s ≤ 24) : (b.sshiftRight s).setWidth 8 = (b >>> s).setWidth 8 := by
  apply BitVec.eq_of_getLsbD_eq
  intro i hi
  rw [BitVec.getLsbD_setWidth, BitVec.getLsbD_setWidth, BitVec.getLsbD_sshiftRight, BitVec.getLsbD_ushiftRight]
  have h1 : ¬ 32 ≤ i := by omega
  have h2 : s + i < 32 := by omega
  simp [h1, h2]
theorem bv_int8 (c : BitVec 8) : c.toInt % 256 = c.toNat := by
  have h := c.isLt
  rw [BitVec.toInt_eq_toNat_cond]
  split <;> omega
theorem bv_key (b : BitVec 32) (k : Nat) (hk : k ≤ 24) : ((b >>> k) &&& 255#32).toInt = (((b.sshiftRight k).setWidth 8 : BitVec 8)).toInt % 256 := by
  rw [bv_int8, bv_sgn b k hk, BitVec.toNat_setWidth, BitVec.toNat_ushiftRight]
  have e := bv_low b k hk
  rw [BitVec.toInt_eq_toNat_cond, e]
  rw [if_pos (by omega)]
theorem byte1 (X s : Int32) (k : Nat) (hU : (s.toUInt32 &&& Int32.toUInt32 31).toBitVec % 32 = BitVec.ofNat 32 k) (hS : (s &&& 31).toBitVec.smod 32 = BitVec.ofNat 32 k) (hk : k ≤ 24) : ((X.toUInt32 >>> (s.toUInt32 &&& Int32.toUInt32 31)).toInt32 &&& Int32.ofInt 255).toInt = (X >>> (s &&& 31)).toInt8.toInt % 256 := by
  have l : ((X.toUInt32 >>> (s.toUInt32 &&& Int32.toUInt32 31)).toInt32 &&& Int32.ofInt 255).toInt = ((X.toBitVec >>> k) &&& 255#32).toInt := by
    show ((X.toBitVec >>> ((s.toUInt32 &&& Int32.toUInt32 31).toBitVec % 32)) &&& (Int32.ofInt 255).toBitVec).toInt = _
    rw [hU, BitVec.ushiftRight_eq', BitVec.toNat_ofNat, Nat.mod_eq_of_lt (by omega)]
    rfl
  have r : (X >>> (s &&& 31)).toInt8.toInt = (((X.toBitVec.sshiftRight k).setWidth 8 : BitVec 8)).toInt := by
    show ((X.toBitVec.sshiftRight' ((s &&& 31).toBitVec.smod 32)).signExtend 8).toInt = _
    rw [hS, BitVec.sshiftRight_eq', BitVec.toNat_ofNat, Nat.mod_eq_of_lt (by omega), BitVec.signExtend_eq_setWidth_of_le _ (by omega)]
  rw [l, r]
  exact bv_key X.toBitVec k hk
theorem byte_eq (x s : Int) (hs : s = 0 ∨ s = 8 ∨ s = 16 ∨ s = 24) : anI (usI x s) 255 = b8I (shI x s) % 256 := by
  unfold anI usI b8I shI
  rw [oI, oI]
  rcases hs with rfl | rfl | rfl | rfl
  · exact byte1 (Int32.ofInt x) (Int32.ofInt 0) 0 (by decide +kernel) (by decide +kernel) (by omega)
  · exact byte1 (Int32.ofInt x) (Int32.ofInt 8) 8 (by decide +kernel) (by decide +kernel) (by omega)
  · exact byte1 (Int32.ofInt x) (Int32.ofInt 16) 16 (by decide +kernel) (by decide +kernel) (by omega)
  · exact byte1 (Int32.ofInt x) (Int32.ofInt 24) 24 (by decide +kernel) (by decide +kernel) (by omega)
/-- four bytes come behind -/
def fd (t : Nat → Int) (n : Nat) (x : Int) (j : Nat) : Int := if j < n then t j else anI (usI x (24 - 8 * ((j - n : Nat) : Int))) 255
def Ta (M : zM) (t : Nat → Int) (n : Nat) (x s : Int) : Prop := 8 * M 7 1 = 8 * (n : Int) + 24 - s ∧ ∀ j : Nat, (j : Int) < M 7 1 → M 8 j = fd t n x j
def Tb (M : zM) (t : Nat → Int) (n : Nat) (x s : Int) : Prop := 8 * M 229 37 = 8 * (n : Int) + 24 - s ∧ ∀ j : Nat, (j : Int) < M 229 37 → M (229 + 37) j % 256 = fd t n x j
section FD
variable {t : Nat → Int} {n : Nat} {x : Int} {M M1 M2 : zM}
theorem fd_at {s : Int} {j : Nat} (h : 8 * (j : Int) = 8 * (n : Int) + 24 - s) (hs : s ≤ 24) : fd t n x j = anI (usI x s) 255 := by
  unfold fd
  rw [if_neg (by omega), show 24 - 8 * ((j - n : Nat) : Int) = s by omega]
theorem Ta.nil (h : Tx M t n) : Ta M t n x 24 := ⟨by have := h.1; omega, fun j hj => by
  have e := h.1
  unfold fd; rw [if_pos (by omega)]; exact h.2 j (by omega)⟩
theorem Ta.go {s s' v y : Int} {i : Nat} (h : Ta M t n x s) (hs : s ≤ 24) (hi : (i : Int) = M 7 1) (e : M1 8 i = v) (f : ∀ c j : Nat, (c ≠ 8 ∨ j ≠ i) → M1 c j = M c j) (hv : v = anI (usI x s) 255) (e2 : M2 7 1 = y) (hy : y = M 7 1 + 1) (f2 : ∀ c j : Nat, (c ≠ 7 ∨ j ≠ 1) → M2 c j = M1 c j) (hs' : s' = s - 8) : Ta M2 t n x s' := by
  obtain ⟨h1, h2⟩ := h
  refine ⟨by omega, fun j hj => ?_⟩
  rw [f2 8 j (by omega)]
  by_cases z : j = i
  · rw [z, e, hv]; exact (fd_at (by omega) hs).symm
  · rw [f 8 j (by omega)]; exact h2 j (by omega)
theorem Ta.fin {s : Int} (h : Ta M t n x s) (hs : s = -8) : Tx M (fd t n x) (n + 4) := ⟨by have := h.1; omega, fun j hj => h.2 j (by have := h.1; omega)⟩
theorem Tb.nil (h : Ty M t n) : Tb M t n x 24 := ⟨by have := h.1; omega, fun j hj => by
  have e := h.1
  unfold fd; rw [if_pos (by omega)]; exact h.2 j (by omega)⟩
theorem Tb.go {s s' v y : Int} {i : Nat} (h : Tb M t n x s) (hs : s ≤ 24) (hs0 : 0 ≤ s) (hi : (i : Int) = M 229 37) (e : M1 (229 + 37) i = v) (f : ∀ c j : Nat, (c ≠ 229 + 37 ∨ j ≠ i) → M1 c j = M c j) (hv : v = b8I (shI x s)) (e2 : M2 229 37 = y) (hy : y = M 229 37 + 1) (f2 : ∀ c j : Nat, (c ≠ 229 ∨ j ≠ 37) → M2 c j = M1 c j) (hs' : s' = s - 8) : Tb M2 t n x s' := by
  obtain ⟨h1, h2⟩ := h
  refine ⟨by omega, fun j hj => ?_⟩
  rw [f2 (229 + 37) j (by omega)]
  by_cases z : j = i
  · rw [z, e, hv, ← byte_eq x s (by omega)]; exact (fd_at (by omega) hs).symm
  · rw [f (229 + 37) j (by omega)]; exact h2 j (by omega)
theorem Tb.fin {s : Int} (h : Tb M t n x s) (hs : s = -8) : Ty M (fd t n x) (n + 4) := ⟨by have := h.1; omega, fun j hj => h.2 j (by have := h.1; omega)⟩
end FD
abbrev fd5 (t : Nat → Int) (n : Nat) (a b c d e : Int) : Nat → Int := fd (fd (fd (fd (fd t n a) (n + 4) b) (n + 4 + 4) c) (n + 4 + 4 + 4) d) (n + 4 + 4 + 4 + 4) e
