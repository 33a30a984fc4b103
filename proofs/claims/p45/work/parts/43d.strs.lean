/-! methods that answer a String -/
abbrev QcS (Γ : Gam) (A : Nat → Prop) (post : Nat → zM → Prop) : Array Value → State → Outcome → State → Prop := va_Qr (S := Nat × zM) (fun w => post w.1 w.2) (fun w a t => a = gs Γ (2 * w.1) ∧ Hp (gD Γ) (gk Γ) (ga Γ) w.2 t.heap) A
def CtS (Γ : Gam) (y : MethodName) (cc : ByteArray) (nL : Nat) (ret : Option FieldType) (fr lo : Nat) (av : List Value) (M : zM) (post : Nat → zM → Prop) : Prop :=
  ∀ sz, Met (gl Γ) y (wB y cc nL ret) (rmF fr lo) (va_Pc av (PRW Γ M sz)) (QcS Γ (AA (ga Γ) sz) post) 0 0 (AA (ga Γ) sz)
abbrev QS (Γ : Gam) (x : Cx) (post : Nat → zM → Prop) : State → Prop := MQ (xb x) (QcS Γ (xA Γ x) post) (xa x) (xs x) 0 0 (xA Γ x)
theorem met_s {Γ : Gam} {y : MethodName} {cc : ByteArray} {nL : Nat} {ret : Option FieldType} {fr lo : Nat} {av : List Value} {M : zM} {post : Nat → zM → Prop} (hy : plainName y.cls = true) (hlen : (lg_sl av).length ≤ nL)
    (h : ∀ x : Cx, Ok Γ x cc nL y.cls fr lo → (xh x).sig.returnType = ret → G Γ x nL (QS Γ x post) M 0 (lv_args 0 av) []) : CtS Γ y cc nL ret fr lo av M post := by
  intro sz
  refine Met.ofW (cc := cc) (maxL := nL) (ret := ret) hy rfl ?_
  intro p e s m args below meth c s₁ B hml hv
  obtain ⟨rfl, hv⟩ := hv
  obtain rfl := hv.1
  have hx := ok_of B hml hv
  rw [lg_entry_eq]
  exact h _ hx B.returns _ [] _ hv.2.1 va_S.rf (lv_entry av hlen)
section GSS
variable {Γ : Gam} {x : Cx} {cc : ByteArray} {nL fr lo pc n : Nat} {own : String} {Q : State → Prop} {M : zM} {lv : List (Nat × Value)} {st : List Value}
theorem g_sret {post : Nat → zM → Prop} {i : Nat} {rn : String} (hx : Ok Γ x cc nL own fr lo) (hr : (xh x).sig.returnType = some (.object rn)) (d : decode cc pc = .ok (.areturn, 1)) (hp : post i M) : G Γ x nL (QS Γ x post) M pc lv [sR Γ i] := by
  intro H locs ls hH hS hl
  exact W.aret hx.1 hx.2.1 hr (Or.inl ⟨_, rfl⟩) (Or.inr ⟨_, rfl⟩) (fun t ht hW => ⟨⟨(i, M), gs Γ (2 * i), rfl, hp, rfl, by show Hp _ _ _ M t.heap; rw [ht]; exact hH⟩, hS.F ht⟩) hS.2.2 d hx.2.2.2.2.2.2.2.2.2.1
variable {y : MethodName} {cy : ByteArray} {ny fy ly index : Nat} {ry : Option FieldType} {As rest st0 : List Value}
theorem g_callSs {post : Nat → zM → Prop} (hx : Ok Γ x cc nL own fr lo) (C : CtS Γ y cy ny ry fy ly As M post) (L : LT own index y cy ny ry As.length) (d : decode cc pc = .ok (.invokestatic index, 3)) (hn : pc + 3 = n) (hf : fy + 1 ≤ fr) (hlo : 8 + (ny + 11) + ly ≤ lo) (hs : (rest.map fun v => v.category).sum ≤ 8) (hst : st0 = As.reverse ++ rest) (kk : ∀ i M', post i M' → G Γ x nL Q M' n lv (sR Γ i :: rest)) : G Γ x nL Q M pc lv st0 := by
  subst hn; intro H locs ls hH hS hl
  have hR := hx.2.2.2.2.2.2.2.2.2.2
  obtain ⟨w1, w2, w3, w4, w6⟩ := L
  refine va_callr (va_runS (As := As) (rest := rest) ⟨hx.1, hx.2.1, hx.2.2.1, hx.2.2.2.1, hx.2.2.2.2.1⟩ (C H.size) (va_cwS As.length hx.2.2.2.2.1 (gT w1 w2 w3 w4) rfl rfl rfl w6 ⟨by rw [hR]; exact hf, by rw [hR]; exact hlo⟩) (pre_of hx hH hS) rfl rfl hl.1 hst (lv_room hs) d ⟨Nat.zero_le _, Nat.zero_le _⟩) hS (fun q _ h => AA_sub hS.1 q h) (AA_sub hS.1) (fun w ra t H1 locs1 ht _ hw hB _ _ hS1 => ?_)
  obtain ⟨e1, hB1⟩ := hB
  subst e1
  exact kk w.1 w.2 hw H1 locs1 ls (by rw [ht] at hB1; exact hB1) hS1 hl
end GSS
/-- how long a String is -/
def sln (i : Nat) : Nat := ((sN[i]?).map (fun r => r.2.2.2)).getD 0
theorem sln_eq {i : Nat} {r : String × Nat × String × Nat} (h : sN[i]? = some r) : sln i = r.2.2.2 := by
  unfold sln; rw [h]; rfl
theorem sN_some (i : Nat) (h : i < 32) : ∃ r, sN[i]? = some r := ⟨_, List.getElem?_eq_getElem (show i < sN.length from h)⟩
def wlF (k : Int) : Nat := sln k.toNat
def rlF (k : Int) : Nat := if k = 0 then 5 else if k = 1 then 7 else if k = 2 then 5 else if k = 3 then 4 else if k = 4 then 3 else 4
def alF (k : Int) : Nat := if k = 0 then 3 else if k = 1 then 4 else if k = 2 then 3 else if k = 3 then 5 else 4
