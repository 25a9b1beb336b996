/-! Images: rows passed into, and out of, a greater row. -/
def cpy (f g : Nat → Int32) (o k : Nat) : Nat → Int32 := fun i => if o ≤ i ∧ i < o + k then f (i - o) else g i
theorem cpy_0 (f g : Nat → Int32) (o : Nat) : cpy f g o 0 = g := by
  funext i
  unfold cpy
  rw [if_neg (by omega)]
theorem cpy_up (f g : Nat → Int32) (o k : Nat) : upd (cpy f g o k) (o + k) (f k) = cpy f g o (k + 1) := by
  funext i
  unfold upd cpy
  by_cases h : i = o + k
  · rw [if_pos h, if_pos (by omega), show i - o = k by omega]
  · rw [if_neg h]
    by_cases h2 : o ≤ i ∧ i < o + k
    · rw [if_pos h2, if_pos (by omega)]
    · rw [if_neg h2, if_neg (by omega)]
theorem cpy_in {f g : Nat → Int32} {o n i : Nat} (h : i < n) : cpy f g o n (o + i) = f i := by
  unfold cpy
  rw [if_pos (by omega), Nat.add_sub_cancel_left]
theorem cpy_out {f g : Nat → Int32} {o n i : Nat} (h : i < o ∨ o + n ≤ i) : cpy f g o n i = g i := by
  unfold cpy
  rw [if_neg (by omega)]
def rdR (g : Nat → Int32) (o : Nat) : Nat → Int32 := fun i => g (o + i)
theorem rd_tB {m m2 o : Nat} {g : Nat → Int32} (hm : m < 2 ^ 61) (hm2 : m2 < 2 ^ 61) (h : ∀ i, i < 61 → g (o + i) = tB m2 i) : fa_fill (rdR g o) (tB m) 61 = tB m2 := by
  funext i
  rcases Nat.lt_or_ge i 61 with q | q
  · rw [fa_fill_in q]
    exact h i q
  · rw [fa_fill_out q]
    have e : ∀ z, z < 2 ^ 61 → tB z i = 0 := fun z hz => by
      unfold tB
      cases hb : z.testBit i with
      | false => rfl
      | true => have := tb_lt hz hb; omega
    rw [e m hm, e m2 hm2]
theorem inG_of {x : Int32} (h : inG x = true) : ∃ k, k ≤ 1 ∧ x = nI k := by
  unfold inG at h
  rw [Bool.or_eq_true, decide_eq_true_eq, decide_eq_true_eq] at h
  rcases h with h | h
  · exact ⟨0, by omega, h⟩
  · exact ⟨1, by omega, h⟩
theorem rd_same {g : Nat → Int32} {i : Nat} {v : Int32} (h : v = g i) : upd g i v = g := fa_upd_same h.symm
