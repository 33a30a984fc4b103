/-! bits, told exactly -/
def shI (a b : Int) : Int := (Int32.ofInt a >>> (Int32.ofInt b &&& 31)).toInt
def anI (a b : Int) : Int := (Int32.ofInt a &&& Int32.ofInt b).toInt
section GB
variable {Γ : Gam} {x : Cx} {cc : ByteArray} {nL fr lo pc n : Nat} {own : String} {Q : State → Prop} {M : zM} {lv : List (Nat × Value)} {st : List Value}
theorem g_ishrE (hx : Ok Γ x cc nL own fr lo) {a b : Int} (d : decode cc pc = .ok (.ishr, 1)) (hn : pc + 1 = n) (kk : ∀ z, zR z → z = shI a b → G Γ x nL Q M n lv (vI z :: st)) : G Γ x nL Q M pc lv (vI b :: vI a :: st) := by
  subst hn; intro H locs ls hH hS hl
  refine lv_ishr hx.1 hx.2.1 d ?_
  have h := kk (Int32.ofInt a >>> (Int32.ofInt b &&& 31)).toInt (rI _) rfl H locs ls hH hS hl
  rwa [show vI (Int32.ofInt a >>> (Int32.ofInt b &&& 31)).toInt = .int (Int32.ofInt a >>> (Int32.ofInt b &&& 31)) from by show Value.int _ = _; rw [oI]] at h
theorem g_iandE (hx : Ok Γ x cc nL own fr lo) {a b : Int} (d : decode cc pc = .ok (.iand, 1)) (hn : pc + 1 = n) (kk : ∀ z, zR z → z = anI a b → (0 ≤ b → b ≤ 2147483647 → 0 ≤ z ∧ z ≤ b) → (0 ≤ a → a ≤ 2147483647 → 0 ≤ z ∧ z ≤ a) → G Γ x nL Q M n lv (vI z :: st)) : G Γ x nL Q M pc lv (vI b :: vI a :: st) := by
  subst hn; intro H locs ls hH hS hl
  refine lv_iand hx.1 hx.2.1 d ?_
  have h := kk (Int32.ofInt a &&& Int32.ofInt b).toInt (rI _) rfl (fun h1 h2 => andI h1 h2) (fun h1 h2 => by rw [Int32.and_comm]; exact andI h1 h2) H locs ls hH hS hl
  rwa [show vI (Int32.ofInt a &&& Int32.ofInt b).toInt = .int (Int32.ofInt a &&& Int32.ofInt b) from by show Value.int _ = _; rw [oI]] at h
end GB
def Bt (s k n : Int) : Prop := ∀ v : Int, 0 ≤ v → v < k → anI (shI s v) 1 ≤ n
theorem Bt.nil {s n : Int} : Bt s 0 n := fun v h0 h1 => absurd h1 (by omega)
theorem Bt.go {s k n a y z : Int} (h : Bt s k n) (hn : 0 ≤ n) (h0 : 0 ≤ a) (hy : y = shI s k) (ha : a = anI y 1) (hz : z = n + a) : Bt s (k + 1) z := by
  intro v v0 v1
  subst hy
  by_cases e : v = k
  · subst e; omega
  · have := h v v0 (by omega); omega
