/-! THE CLAIM OUT OF ONE WALK OF THE LAW'S BODY. Your part is whole_start (and what it stands on); all else here is the same for every law, but numbers. -/
def R_law : String := "RaftForestLaw"
def lw_P (b : Addr) (xs : List Int32) (args : Array Value) (s : State) : Prop := args = #[.ref b] ∧ s.IntsAt b xs ∧ xs.length ≤ 3072 ∧ (Jvm.Cond.and given_1 narrow_1).before args s = true
def lw_Q (_ : Array Value) (s : State) (o : Outcome) (t : State) : Prop := o = .returned (some (.int 1)) ∧ Framed s o t [] 600000 7302250
def lw_Z (below : List Frame) (a : Array Value) (s : State) : State → Prop := fun t => ∃ o, t.status = .running ∧ Ended t below o ∧ lw_Q a s o t
/-- the law's own end, with 1 on the stack, nothing written that was there before, its room as the claim has it -/
theorem lw_ret {p : Program} {l : Launch} {e : Env} {s : State} {m : MethodId} {below : List Frame} {meth : Method} {c : Code} {b : Nat} (hx : p.tables.exec = Jvm.exec) (hb : c.code = code) (hr : meth.sig.returnType = ret) (hlocks : meth.locks = false) {pc : Nat} {H : Heap} {ls : Array Slot} (hdg : decode code pc = .ok (.ireturn, 1)) : W p l e room_1 s m #[Value.ref b] below meth c H [] 600000 7302250 (lw_Z below #[Value.ref b] s) (F0 m pc ls [.int 1]) := by
  intro T hT X
  obtain ⟨fs, hret, hrun, hended, hW, hframe⟩ := X.leave (v := some (.int 1)) (hlocks := hlocks) (fun h => by rw [hr] at h; cases h)
  have hmeth' : T.vm.method? m = some meth := X.method'
  refine ⟨T.setFrames fs, ?_, .returned (some (.int 1)), hrun, hended, rfl, ⟨_, rfl⟩, hW, hframe⟩
  jvm_step X.here [X.here.top, hx, hb, hdg, hmeth', hr, ret, narrow_b1]
  (try refine ⟨rfl, ?_⟩); (try refine ⟨rfl, ?_⟩)
  first | (intro acts; rw [hret _ acts rfl rfl rfl]) | rw [hret _ _ rfl rfl rfl]
  exact Steps.refl _
/-- what holds at the law's entry: the machine, the code, the tables' words (any of lw_tbl by 'hts w (by decide +kernel)'), the script of L ints xs at the cell b, what the Statement gives of the start (any of its parts by flat_of_before) -/
def lw_At (p : Program) (s : State) (m : MethodId) (meth : Method) (c : Code) (b L : Nat) (xs : Nat → Int32) : Prop :=
  p.tables.exec = Jvm.exec ∧ c.code = code ∧ meth.sig.returnType = ret ∧ c.maxLocals = 4 ∧ s.vm.findClass R_law = some m.cls ∧ (∀ w ∈ lw_tbl, w.before #[Value.ref b] s = true) ∧ va_X b L xs s s.heap ∧ b < s.heap.size ∧ meth.locks = false ∧ (Jvm.Cond.and given_1 narrow_1).before #[Value.ref b] s = true
/-! the law's own rows, over the same memory of numbers -/
def OkL (Γ : Gam) (x : Cx) (b L : Nat) (f : Nat → Int32) : Prop :=
  (xp x).tables.exec = Jvm.exec ∧ (xc x).code = code ∧ (xc x).maxLocals = 4 ∧ (xs x).vm.findClass RL = some (xm x).cls ∧ (∀ w ∈ wsB, w.before #[Value.ref b] (xs x) = true) ∧
  va_K (gD Γ) vwCl (TY (gk Γ)) (xs x) ∧ EX (xs x) ∧ SX (gs Γ) (xA Γ x) (xs x) (xs x).heap ∧ zJ (ga Γ) ∧ (xh x).locks = false ∧
  va_X b L f (xs x) (xs x).heap ∧ b < (xs x).heap.size ∧ ¬ xA Γ x b ∧ (∀ q, xA Γ x q → (xs x).heap.size ≤ q) ∧ (xh x).sig.returnType = ret ∧ L ≤ 3072
abbrev lvL (Γ : Gam) (b : Nat) (i : Int) : List (Nat × Value) := [(0, .ref b), (1, aR Γ 0), (2, aR Γ 229), (3, vI i)]
abbrev fz (f : Nat → Int32) (i k : Int) : Int := (f (i + k).toNat).toInt
def GL (Γ : Gam) (x : Cx) (b : Nat) (M : zM) (pc : Nat) (i : Int) (st : List Value) : Prop :=
  ∀ (H : Heap) (locs : List Loc) (ls : Array Slot), Hp (gD Γ) (gk Γ) (ga Γ) M H → va_S (xA Γ x) (xs x).heap H locs → lv_has ls 4 (lvL Γ b i) →
    W (xp x) (gl Γ) (xe x) room_1 (xs x) (xm x) #[Value.ref b] (xb x) (xh x) (xc x) H locs 287 18933 (lw_Z (xb x) #[Value.ref b] (xs x)) (F0 (xm x) pc ls st)
section LROWS
variable {Γ : Gam} {x : Cx} {b L : Nat} {f : Nat → Int32} {M : zM} {pc n : Nat} {i : Int} {st : List Value}
theorem l_iv (kk : zIv M → GL Γ x b M pc i st) : GL Γ x b M pc i st := by
  intro H locs ls hH hS hl
  exact kk hH.1 H locs ls hH hS hl
theorem l_x (hx : OkL Γ x b L f) (d : decode code pc = .ok (.aload_n 1, 1)) (hn : pc + 1 = n) (kk : GL Γ x b M n i (aR Γ 0 :: st)) : GL Γ x b M pc i st := by
  subst hn; intro H locs ls hH hS hl
  exact lv_aload_n hx.1 hx.2.1 d rfl (lv_at hl 1 rfl) (kk H locs ls hH hS hl)
theorem l_m (hx : OkL Γ x b L f) (d : decode code pc = .ok (.aload_n 2, 1)) (hn : pc + 1 = n) (kk : GL Γ x b M n i (aR Γ 229 :: st)) : GL Γ x b M pc i st := by
  subst hn; intro H locs ls hH hS hl
  exact lv_aload_n hx.1 hx.2.1 d rfl (lv_at hl 2 rfl) (kk H locs ls hH hS hl)
theorem l_arg (hx : OkL Γ x b L f) (k : Int) (hk0 : 0 ≤ k) (hk : k ≤ 5) (h0 : 0 ≤ i) (hi : i + 6 ≤ L) (d0 : decode code pc = .ok (.aload_n 0, 1)) (d1 : decode code (pc + 1) = .ok (.iload_n 3, 1)) (d2 : decode code (pc + 1 + 1) = .ok (.iconst k, 1)) (d3 : decode code (pc + 1 + 1 + 1) = .ok (.iadd, 1)) (d4 : decode code (pc + 1 + 1 + 1 + 1) = .ok (.iaload, 1)) (hn : pc + 5 = n)
    (kk : GL Γ x b M n i (vI (fz f i k) :: st)) : GL Γ x b M pc i st := by
  subst hn; intro H locs ls hH hS hl
  obtain ⟨hXs, hbl, hbA, -, -, hL⟩ := hx.2.2.2.2.2.2.2.2.2.2
  refine lv_aload_n hx.1 hx.2.1 d0 rfl (lv_at hl 0 rfl) ?_
  refine lv_iload_n hx.1 hx.2.1 d1 rfl (lv_at hl 3 rfl) ?_
  refine lv_iconst (v := Int32.ofInt k) hx.1 hx.2.1 d2 rfl ?_
  refine lv_iadd hx.1 hx.2.1 d3 ?_
  refine x_top (v := Int32.ofInt (i + k)) (Int32.ofInt_add _ _).symm ?_
  refine va_sld hx.1 hx.2.1 hXs hbl hbA hS (i := Int32.ofInt (i + k)) (inI (by omega) (by omega) (by omega)) d4 ?_
  refine x_top (v := Int32.ofInt (fz f i k)) (by rw [cN (by omega) (by omega), oI]) ?_
  exact kk H locs ls hH hS hl
theorem l_pop (hx : OkL Γ x b L f) {v : Int} (d : decode code pc = .ok (.pop, 1)) (hn : pc + 1 = n) (kk : GL Γ x b M n i st) : GL Γ x b M pc i (vI v :: st) := by
  subst hn; intro H locs ls hH hS hl
  exact lv_pop hx.1 hx.2.1 d rfl (kk H locs ls hH hS hl)
theorem l_goto (hx : OkL Γ x b L f) {off : Int} (d : decode code pc = .ok (.goto off, 3)) (hn : (pc : Int) + off = (n : Int)) (kk : GL Γ x b M n i st) : GL Γ x b M pc i st := by
  intro H locs ls hH hS hl
  exact lv_goto hx.1 hx.2.1 d hn (kk H locs ls hH hS hl)
theorem l_inc (hx : OkL Γ x b L f) {i' : Int} (d : decode code pc = .ok (.iinc 3 6, 3)) (hn : pc + 3 = n) (hi : i' = i + 6) (kk : GL Γ x b M n i' st) : GL Γ x b M pc i st := by
  subst hn; intro H locs ls hH hS hl
  refine lv_iinc (v := Int32.ofInt i') (lv' := [(3, vI i'), (0, .ref b), (1, aR Γ 0), (2, aR Γ 229)]) hx.1 hx.2.1 d hl (k := 3) rfl (by rw [hi, Int32.ofInt_add]) (by decide) rfl (fun ls hl => ?_)
  exact kk H locs ls hH hS (lv_sub hl [1, 2, 3, 0] rfl)
theorem l_eq (hx : OkL Γ x b L f) {v w : Int} {off : Int} (d : decode code pc = .ok (.if_icmp .eq off, 3)) (hn : (pc : Int) + off = (n : Int)) (he : v = w) (kk : GL Γ x b M n i st) : GL Γ x b M pc i (vI w :: vI v :: st) := by
  intro H locs ls hH hS hl
  subst he
  exact lv_icmp_eq hx.1 hx.2.1 d hn (fun _ => kk H locs ls hH hS hl) (fun h => absurd rfl h)
theorem l_swI (hx : OkL Γ x b L f) {dflt lo hi off z v : Int} {offs : Array Int} {len t : Nat} (d : decode code pc = .ok (.tableswitch dflt lo hi offs, len)) (hv : z = v) (h1 : ¬ (Int32.ofInt v).toInt < lo) (h2 : ¬ hi < (Int32.ofInt v).toInt) (ho : offs[((Int32.ofInt v).toInt - lo).toNat]? = some off) (ht : (pc : Int) + off = (t : Int)) (kk : GL Γ x b M t i st) : GL Γ x b M pc i (vI z :: st) := by
  subst hv; intro H locs ls hH hS hl
  exact lv_tableIn hx.1 hx.2.1 d h1 h2 ho ht (kk H locs ls hH hS hl)
theorem l_swO (hx : OkL Γ x b L f) {dflt lo hi z : Int} {offs : Array Int} {len t : Nat} (d : decode code pc = .ok (.tableswitch dflt lo hi offs, len)) (hz : zR z) (h : z < lo ∨ hi < z) (ht : (pc : Int) + dflt = (t : Int)) (kk : GL Γ x b M t i st) : GL Γ x b M pc i (vI z :: st) := by
  intro H locs ls hH hS hl
  exact lv_tableOut hx.1 hx.2.1 d (by rw [tI hz.1 hz.2]; exact h) ht (kk H locs ls hH hS hl)
theorem l_head (hx : OkL Γ x b L f) (h0 : 0 ≤ i) (h9 : i ≤ 4000) (d18 : decode code 18 = .ok (.iload_n 3, 1)) (d19 : decode code 19 = .ok (.aload_n 0, 1)) (d20 : decode code 20 = .ok (.arraylength, 1)) (d21 : decode code 21 = .ok (.bipush 6, 2)) (d23 : decode code 23 = .ok (.isub, 1)) {off : Int} (d24 : decode code 24 = .ok (.if_icmp .gt off, 3)) (ht : (24 : Int) + off = (1572 : Nat))
    (d27 : decode code 27 = .ok (.aload_n 0, 1)) (d28 : decode code 28 = .ok (.iload_n 3, 1)) (d29 : decode code 29 = .ok (.iaload, 1)) (d30 : decode code 30 = .ok (.bipush 63, 2)) (d32 : decode code 32 = .ok (.iand, 1))
    (ke : GL Γ x b M 1572 i []) (kk : i + 6 ≤ L → ∀ z, zR z → GL Γ x b M 33 i [vI z]) : GL Γ x b M 18 i [] := by
  intro H locs ls hH hS hl
  obtain ⟨hXs, hbl, hbA, -, -, hL⟩ := hx.2.2.2.2.2.2.2.2.2.2
  refine lv_iload_n hx.1 hx.2.1 d18 rfl (lv_at hl 3 rfl) ?_
  refine lv_aload_n hx.1 hx.2.1 d19 rfl (lv_at hl 0 rfl) ?_
  refine va_slen hx.1 hx.2.1 hXs hbl hbA hS d20 ?_
  refine lv_bipush (v := 6) hx.1 hx.2.1 d21 (by decide) ?_
  refine lv_isub hx.1 hx.2.1 d23 ?_
  refine x_top (v := Int32.ofInt ((L : Int) - 6)) (by rw [Int32.ofInt_sub]; rfl) ?_
  refine lv_icmp_gt (tgt := 1572) hx.1 hx.2.1 d24 ht (fun _ => ke H locs ls hH hS hl) (fun h => ?_)
  rw [lI ⟨by omega, by omega⟩ ⟨by omega, by omega⟩] at h
  refine lv_aload_n hx.1 hx.2.1 d27 rfl (lv_at hl 0 rfl) ?_
  refine lv_iload_n hx.1 hx.2.1 d28 rfl (lv_at hl 3 rfl) ?_
  refine va_sld hx.1 hx.2.1 hXs hbl hbA hS (i := Int32.ofInt i) (inI (by omega) (by omega) (by omega)) d29 ?_
  refine lv_bipush (v := 63) hx.1 hx.2.1 d30 (by decide) ?_
  refine lv_iand hx.1 hx.2.1 d32 ?_
  refine lv_topi (fun z _ => ?_)
  refine x_top (v := Int32.ofInt z.toInt) (oI z).symm ?_
  exact kk (by omega) z.toInt (rI z) H locs ls hH hS hl
theorem l_end (hx : OkL Γ x b L f) (d : decode code 1572 = .ok (.iconst 1, 1)) (d3 : decode code 1573 = .ok (.ireturn, 1)) : GL Γ x b M 1572 i [] := by
  intro H locs ls hH hS hl
  obtain ⟨hXs, hbl, hbA, hAr, hr, hL⟩ := hx.2.2.2.2.2.2.2.2.2.2
  refine lv_iconst (v := 1) hx.1 hx.2.1 d (by decide) ?_
  refine va_forget (fun q hq => hAr _ (hS.2.2 q hq)) ?_
  refine W.widen (k := 600000) (n := 7302250) (Nat.le_of_ble_eq_true rfl) (Nat.le_of_ble_eq_true rfl) ?_
  exact lw_ret hx.1 hx.2.1 hr hx.2.2.2.2.2.2.2.2.2.1 d3
theorem lpre_of {H : Heap} {locs : List Loc} {av : List Value} (hx : OkL Γ x b L f) (hH : Hp (gD Γ) (gk Γ) (ga Γ) M H) (hS : va_S (xA Γ x) (xs x).heap H locs) : PreS (xs x) H (va_Pc av (PRW Γ M H.size)) av := by
  refine ⟨PRW.blind, fun U hU hW => ⟨rfl, by rw [hU], by rw [hU]; exact hH, va_K.moved hW.alike hx.2.2.2.2.2.1, hx.2.2.2.2.2.2.1.warm hW, ?_, hx.2.2.2.2.2.2.2.2.1⟩⟩
  rw [hU]
  exact hx.2.2.2.2.2.2.2.1.go hS.2.1 (AA_sub hS.1) hW
theorem lpreV_of {H : Heap} {locs : List Loc} {As : List Value} {o : Nat} {C : String} (hx : OkL Γ x b L f) (hb : OB o C) (hH : Hp (gD Γ) (gk Γ) (ga Γ) M H) (hS : va_S (xA Γ x) (xs x).heap H locs) : PreV (xs x) H C (ga Γ o) (va_Pc (aR Γ o :: As) (PRW Γ M H.size)) As := by
  have hp := lpre_of (av := aR Γ o :: As) hx hH hS
  obtain ⟨h1, h2, T, N, h3⟩ := hb
  obtain ⟨hI, L1, hP⟩ := hH
  exact ⟨hp.1, va_recv hx.2.2.2.2.2.1 hP h3 (q0 := o) (by rw [wW_at h1, ent_obj h2]), hp.2⟩
variable {y : MethodName} {cy : ByteArray} {ny fy ly index : Nat} {ry : Option FieldType} {As rest st0 : List Value} {o : Nat}
theorem l_call {post : Int → zM → Prop} (hx : OkL Γ x b L f) (C : CtI Γ y cy ny ry fy ly (aR Γ o :: As) M post) (L1 : LV RL index y cy ny ry As.length) (hb : OB o y.cls) (d : decode code pc = .ok (.invokevirtual index, 3)) (hn : pc + 3 = n) (hf : fy + 1 ≤ 2048) (hlo : 8 + (ny + 11) + ly ≤ 84000) (hs : (rest.map fun v => v.category).sum ≤ 8) (hst : st0 = As.reverse ++ aR Γ o :: rest)
    (kk : ∀ z M', zR z → post z M' → GL Γ x b M' n i (vI z :: rest)) : GL Γ x b M pc i st0 := by
  subst hn; intro H locs ls hH hS hl
  obtain ⟨w1, w2, w3, w4, w5, w6⟩ := L1
  refine va_calli (va_runV (As := As) (rest := rest) ⟨hx.1, hx.2.1, hx.2.2.1, hx.2.2.2.1, hx.2.2.2.2.1⟩ (C H.size) (cwV As.length hx.2.2.2.2.1 (gV w1 w2 w3 w4 w5) rfl rfl rfl ⟨rfl, w6⟩ ⟨hf, hlo⟩) (lpreV_of hx hb hH hS) rfl rfl hl.1 hst (lv_room hs) d ⟨Nat.le_of_ble_eq_true rfl, Nat.le_of_ble_eq_true rfl⟩) hS (fun q _ h => AA_sub hS.1 q h) (AA_sub hS.1) (fun r u t H1 locs1 ht _ hw hB _ _ hS1 => ?_)
  obtain ⟨z, rfl, hz, hpost⟩ := hw
  exact kk z u hz hpost H1 locs1 ls (by have hB' : Hp (gD Γ) (gk Γ) (ga Γ) u t.heap := hB; rw [ht] at hB'; exact hB') hS1 hl
end LROWS
