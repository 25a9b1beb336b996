/-! The dish whose loss leaves the least. -/
def LQ (m j : Nat) : Nat := reN (woN m (2 ^ j))
theorem LQ_le (m j : Nat) : LQ m j ≤ 60 := reN_le _
def mmP (m ny s least : Nat) (most : Int32) : Prop := (least = 61 ∧ most = -6 ∧ ∀ j, j < s → ny.testBit j = false) ∨ ∃ t, t < s ∧ most = nI t ∧ least = LQ m t ∧ ny.testBit t = true ∧ (∀ j, j < s → ny.testBit j = true → LQ m t ≤ LQ m j) ∧ ∀ j, j < t → ny.testBit j = true → LQ m t < LQ m j
theorem mmF_p (m ny : Nat) : ∀ n s least most, s + n = 61 → mmP m ny s least most → ∃ le2, mmP m ny 61 le2 (mmF m ny n s least most)
  | 0, s, least, most, e, h => ⟨least, by rw [show s = 61 by omega] at h; exact h⟩
  | n + 1, s, least, most, e, h => by
    rw [mmF_s]
    have hs := LQ_le m s
    by_cases hb : ny.testBit s = true
    · rw [if_pos hb]
      by_cases hl : reN (woN m (2 ^ s)) < least
      · rw [if_pos hl]
        have hl2 : LQ m s < least := hl
        refine mmF_p m ny n (s + 1) _ _ (by omega) (Or.inr ⟨s, Nat.lt_succ_self s, rfl, rfl, hb, fun j hj hbj => ?_, fun j hj hbj => ?_⟩)
        · rcases h with ⟨h1, h2, h3⟩ | ⟨t, h1, h2, h3, h4, h5, h6⟩
          · rcases Nat.lt_or_ge j s with q | q
            · rw [h3 j q] at hbj; cases hbj
            · rw [show j = s by omega]; exact Nat.le_refl _
          · rcases Nat.lt_or_ge j s with q | q
            · have := h5 j q hbj; omega
            · rw [show j = s by omega]; exact Nat.le_refl _
        · rcases h with ⟨h1, h2, h3⟩ | ⟨t, h1, h2, h3, h4, h5, h6⟩
          · rw [h3 j hj] at hbj; cases hbj
          · have := h5 j hj hbj; omega
      · rw [if_neg hl]
        have hl2 : ¬ LQ m s < least := hl
        refine mmF_p m ny n (s + 1) _ _ (by omega) ?_
        rcases h with ⟨h1, h2, h3⟩ | ⟨t, h1, h2, h3, h4, h5, h6⟩
        · omega
        · refine Or.inr ⟨t, by omega, h2, h3, h4, fun j hj hbj => ?_, h6⟩
          rcases Nat.lt_or_ge j s with q | q
          · exact h5 j q hbj
          · rw [show j = s by omega]; omega
    · rw [if_neg hb]
      refine mmF_p m ny n (s + 1) _ _ (by omega) ?_
      rcases h with ⟨h1, h2, h3⟩ | ⟨t, h1, h2, h3, h4, h5, h6⟩
      · refine Or.inl ⟨h1, h2, fun j hj => ?_⟩
        rcases Nat.lt_or_ge j s with q | q
        · exact h3 j q
        · rw [show j = s by omega]; simpa using hb
      · refine Or.inr ⟨t, by omega, h2, h3, h4, fun j hj hbj => ?_, h6⟩
        rcases Nat.lt_or_ge j s with q | q
        · exact h5 j q hbj
        · rw [show j = s by omega] at hbj; exact absurd hbj hb
theorem mm_of {m ny q : Nat} (hn : ny < 2 ^ 61) (hq : ny.testBit q = true) : ∃ t, ny.testBit t = true ∧ mmA m ny = nI t ∧ (∀ j, ny.testBit j = true → LQ m t ≤ LQ m j) := by
  obtain ⟨le2, h⟩ := mmF_p m ny 61 0 61 (-6) (by decide) (Or.inl ⟨rfl, rfl, fun j hj => absurd hj (Nat.not_lt_zero j)⟩)
  rcases h with ⟨-, -, h3⟩ | ⟨t, h1, h2, h3, h4, h5, h6⟩
  · rw [h3 q (tb_lt hn hq)] at hq; cases hq
  · exact ⟨t, h4, h2, fun j hj => h5 j (tb_lt hn hj) hj⟩
/-- what the law's loop keeps: the least of all so far -/
def lsF (m : Nat) (X : Nat → Nat) : Nat → Nat
  | 0 => 99
  | i + 1 => if LQ m (X i) < lsF m X i then LQ m (X i) else lsF m X i
theorem lsF_le (m : Nat) (X : Nat → Nat) : ∀ i, lsF m X i ≤ 99
  | 0 => Nat.le_refl _
  | i + 1 => by
    unfold lsF
    have := lsF_le m X i
    split <;> omega
theorem lsF_low (m : Nat) (X : Nat → Nat) : ∀ i j, j < i → lsF m X i ≤ LQ m (X j)
  | 0, j, h => absurd h (Nat.not_lt_zero j)
  | i + 1, j, h => by
    unfold lsF
    rcases Nat.lt_or_ge j i with q | q
    · have := lsF_low m X i j q
      split <;> omega
    · have e : j = i := by omega
      subst e
      split <;> omega
theorem lsF_is (m : Nat) (X : Nat → Nat) : ∀ i, lsF m X i = 99 ∨ ∃ j, j < i ∧ lsF m X i = LQ m (X j)
  | 0 => Or.inl rfl
  | i + 1 => by
    unfold lsF
    by_cases c : LQ m (X i) < lsF m X i
    · rw [if_pos c]; exact Or.inr ⟨i, Nat.lt_succ_self i, rfl⟩
    · rw [if_neg c]
      rcases lsF_is m X i with h | ⟨j, h1, h2⟩
      · exact Or.inl h
      · exact Or.inr ⟨j, by omega, h2⟩
theorem ls_mm {m n : Nat} {X : Nat → Nat} (h : MK m n X) (h0 : 0 < n) : ∃ t, m.testBit t = true ∧ t ≤ 60 ∧ mmA m m = nI t ∧ LQ m t = lsF m X n := by
  obtain ⟨t, h1, h2, h3⟩ := mm_of (m := m) h.1 (h.tb h0)
  refine ⟨t, h1, by have := tb_lt h.1 h1; omega, h2, ?_⟩
  obtain ⟨j, hj, e⟩ := h.2.2.2.2 t h1
  have a1 := lsF_low m X n j hj
  rw [← e] at a1
  rcases lsF_is m X n with q | ⟨j2, q1, q2⟩
  · have := LQ_le m t; omega
  · have := h3 (X j2) (h.tb q1); omega
theorem ls_sure {m n : Nat} {X : Nat → Nat} (h : MK m n X) (h0 : 0 < n) : sureR m = nI (lsF m X n) := by
  obtain ⟨t, h1, h2, h3, h4⟩ := ls_mm h h0
  unfold sureR
  rw [if_neg (by rw [h.2.1]; omega), h3, bitO_nI h2]
  exact congrArg nI h4
theorem ls_mis {m n : Nat} {X : Nat → Nat} (h : MK m n X) (h0 : 0 < n) : leftR m (misR m 0) = nI (lsF m X n) := by
  obtain ⟨t, h1, h2, h3, h4⟩ := ls_mm h h0
  have e : misR m 0 = nI t := by
    unfold misR
    rw [if_pos ⟨by decide, by rw [h.2.1]; exact nI_lt (a := 0) h0 (by have := h.n60; omega)⟩]
    exact h3
  unfold leftR
  rw [e, if_pos (by rw [stn_nI h2]; exact h1), bitO_nI h2]
  exact congrArg nI h4
theorem ofN_mono {m m2 d : Nat} (hm : m < 2 ^ 61) (hs : ∀ k, m2.testBit k = true → m.testBit k = true) (h2 : m2 < 2 ^ 61) (h : ofN m d = 0) : ofN m2 d = 0 := by
  rcases Nat.eq_zero_or_pos (ofN m2 d) with z | z
  · exact z
  · obtain ⟨k, k1, k2⟩ := (ofN_ne h2).mp (by omega : ofN m2 d ≠ 0)
    exact absurd h ((ofN_ne hm).mpr ⟨k, hs _ k1, hs _ k2⟩)
theorem reF_ge (m : Nat) : ∀ n d, d + n ≤ 61 → d - 1 ≤ reF m n d
  | 0, d, h => by show d - 1 ≤ 60; omega
  | n + 1, d, h => by
    unfold reF
    split
    · exact Nat.le_refl _
    · have := reF_ge m n (d + 1) (by omega)
      omega
theorem reF_mono {m m2 : Nat} (hs : ∀ d, ofN m d = 0 → ofN m2 d = 0) : ∀ n d, d + n ≤ 61 → reF m2 n d ≤ reF m n d
  | 0, d, h => Nat.le_refl _
  | n + 1, d, h => by
    unfold reF
    by_cases a : ofN m d = 0
    · rw [if_pos a, if_pos (hs d a)]
      exact Nat.le_refl _
    · rw [if_neg a]
      by_cases b : ofN m2 d = 0
      · rw [if_pos b]
        have := reF_ge m n (d + 1) (by omega)
        omega
      · rw [if_neg b]
        exact reF_mono hs n (d + 1) (by omega)
theorem LQ_re {m : Nat} (hm : m < 2 ^ 61) (j : Nat) : LQ m j ≤ reN m := by
  refine reF_mono (fun d h => ofN_mono hm (fun k hk => ?_) (wo_lt _ hm) h) 60 1 (by decide)
  rw [wo_tb, Bool.and_eq_true] at hk
  exact hk.1
theorem ls_le {m n : Nat} {X : Nat → Nat} (h : MK m n X) (h0 : 0 < n) : lsF m X n ≤ reN m := by
  obtain ⟨t, h1, h2, h3, h4⟩ := ls_mm h h0
  rw [← h4]
  exact LQ_re h.1 t
