/-! where what stands next ends, by its first byte -/
section STP
variable {t : Nat → Int} {n a : Nat}
theorem stp_ang (h : a < n) (h1 : t a = 60 ∨ t a = 62) : wh t (min n (a + 2)) 61 61 (a + 1) = stp t n a := by
  unfold stp
  rw [if_pos h, if_pos h1]
  by_cases c : a + 1 < n ∧ t (a + 1) = 61
  · rw [if_pos c, wh_go (by omega) (by omega) (by omega), wh_stop (by omega)]
  · rw [if_neg c, wh_stop (by omega)]
theorem stp_let (h : a < n) (h1 : 97 ≤ t a) (h2 : t a ≤ 122) : wh t n 97 122 (a + 1) = stp t n a := by
  unfold stp
  rw [if_pos h, if_neg (by omega), if_pos ⟨h1, h2⟩]
theorem stp_dig (h : a < n) (h1 : 48 ≤ t a) (h2 : t a ≤ 57) : wh t n 48 57 (a + 1) = stp t n a := by
  unfold stp
  rw [if_pos h, if_neg (by omega), if_neg (by omega), if_pos ⟨h1, h2⟩]
theorem stp_oth (h : a < n) (h1 : ¬ (t a = 60 ∨ t a = 62)) (h2 : ¬ (97 ≤ t a ∧ t a ≤ 122)) (h3 : ¬ (48 ≤ t a ∧ t a ≤ 57)) : stp t n a = a + 1 := by
  unfold stp
  rw [if_pos h, if_neg h1, if_neg h2, if_neg h3]
theorem stp_fin (h : n ≤ a) : stp t n a = n := by
  unfold stp
  rw [if_neg (by omega)]
theorem fst9_in (h : a < n) : fst9 t n a = t a := by unfold fst9; rw [if_pos h]
theorem fst9_out (h : n ≤ a) : fst9 t n a = -1 := by unfold fst9; rw [if_neg (by omega)]
end STP
section STP2
variable {t : Nat → Int} {n a : Nat} {M : zM}
theorem Tc.mk9 {s : Nat} (tx : Tx M t n) (hs : wh t n 32 32 s = a) (hle : a ≤ n) (h2 : M 7 2 = a) (h3 : M 7 3 = stp t n a) (h4 : M 7 4 = fst9 t n a) : Tc M t n (sk t n s) := by
  have e : sk t n s = a := hs
  rw [e]
  refine ⟨tx, hle, ?_, h2, h3, h4⟩
  have w := wh_wh t n 32 32 s
  rw [hs] at w
  exact w
theorem stp_o9 {z : Int} (hb : a < n → (¬ (t a = 60 ∨ t a = 62) ∧ ¬ (97 ≤ t a ∧ t a ≤ 122) ∧ ¬ (48 ≤ t a ∧ t a ≤ 57))) (e : (a < n ∧ z = a + 1) ∨ (n ≤ a ∧ z = n)) : z = stp t n a := by
  rcases e with ⟨h, e⟩ | ⟨h, e⟩
  · have q := hb h
    rw [stp_oth h q.1 q.2.1 q.2.2]; omega
  · rw [stp_fin h]; exact e
theorem stp_w9 {z : Int} {m : Nat} {lo hi : Int} (h : wh t m lo hi z.toNat = stp t n a) (h0 : 0 ≤ z) (hs : ¬ (z.toNat < m ∧ lo ≤ t z.toNat ∧ t z.toNat ≤ hi)) : z = stp t n a := by
  rw [wh_stop hs] at h
  omega
theorem fst_9 {z : Int} (e : (a < n ∧ z = t a) ∨ (n ≤ a ∧ z = -1)) : z = fst9 t n a := by
  rcases e with ⟨h, e⟩ | ⟨h, e⟩
  · rw [fst9_in h]; exact e
  · rw [fst9_out h]; exact e
end STP2
