theorem cR_done {len fu mm sz : Nat} {a : RAcc} (h : ¬ nI a.1 = 0) : cR len fu mm sz a = (sz, a) := by
  cases fu with
  | zero => rfl
  | succ fu => rw [cR_s, if_neg h]
theorem cc_z {len mm sz : Nat} {a : RAcc} (h1 : 1 ≤ len) (h2 : len ≤ 20) (hR : cR len (13 - mm) mm sz a = cRes len) (h0 : nI a.1 = 0) : mm ≤ 12 := by
  rcases Nat.lt_or_ge mm 13 with q | q
  · omega
  · rw [show 13 - mm = 0 by omega] at hR
    have h3 := cc_pos h1 h2
    rw [← hR] at h3
    have h4 : 0 < a.1 ∧ a.1 < 2 ^ 31 := h3
    have := i_eq (b := 0) h4.2 (by decide) h0
    omega
theorem cc_mono {len mm : Nat} (h : len ≤ mm * (mm - 1) / 2) : len ≤ (mm + 1) * (mm + 1 - 1) / 2 := by
  have : mm * (mm - 1) ≤ (mm + 1) * (mm + 1 - 1) := Nat.mul_le_mul (by omega) (by omega)
  omega
theorem tt_len {len mm : Nat} (h : mm ≤ 13) : mm * (mm - 1) ≤ 156 := Nat.mul_le_mul h (by omega : mm - 1 ≤ 12)
/-- stations set one by one -/
def stW (l : List Nat) (b : Nat) (f : Nat → Int32) : Nat → Nat → Int32
  | 0 => f
  | k + 1 => upd (stW l b f k) (b + atL l k) 1
theorem stW_s (l : List Nat) (b : Nat) (f : Nat → Int32) (k : Nat) : upd (stW l b f k) (b + atL l k) 1 = stW l b f (k + 1) := rfl
theorem stW_at (l : List Nat) (b : Nat) (f : Nat → Int32) : ∀ k j, stW l b f k j = if ∃ i, i < k ∧ b + atL l i = j then 1 else f j
  | 0, j => by
    rw [if_neg (fun ⟨i, h, _⟩ => absurd h (Nat.not_lt_zero _))]
    rfl
  | k + 1, j => by
    show upd (stW l b f k) (b + atL l k) 1 j = _
    unfold upd
    by_cases h : j = b + atL l k
    · rw [if_pos h, if_pos ⟨k, by omega, h.symm⟩]
    · rw [if_neg h, stW_at l b f k j]
      by_cases h2 : ∃ i, i < k ∧ b + atL l i = j
      · rw [if_pos h2, if_pos (by obtain ⟨i, a1, a2⟩ := h2; exact ⟨i, by omega, a2⟩)]
      · rw [if_neg h2, if_neg (fun ⟨i, a1, a2⟩ => by
          rcases Nat.lt_or_ge i k with q | q
          · exact h2 ⟨i, q, a2⟩
          · rw [show i = k by omega] at a2; exact h a2.symm)]
theorem fill0 {m : Nat} (hm : m < 2 ^ 61) : fa_fill (fun _ => 0) (tB m) 61 = fun _ => 0 := by
  funext i
  rcases Nat.lt_or_ge i 61 with q | q
  · rw [fa_fill_in q]
  · rw [fa_fill_out q]
    unfold tB
    cases hb : m.testBit i with
    | false => rfl
    | true => have := tb_lt hm hb; omega
theorem stand_tB {kd n b : Nat} (h : okN kd n) (hb : spN (resT kd n).2.2.2 + b ≤ 60) : stW (LT kd n) b (fun _ => 0) (LT kd n).length = tB ((resT kd n).2.2.2 * 2 ^ b) := by
  obtain ⟨-, -, p3, -, p5, -, p7, p8⟩ := lt_parts h
  funext j
  rw [stW_at]
  unfold tB
  rw [Nat.testBit_mul_two_pow]
  by_cases h2 : ∃ i, i < (LT kd n).length ∧ b + atL (LT kd n) i = j
  · rw [if_pos h2]
    obtain ⟨i, a1, a2⟩ := h2
    have hm := at_mem _ i a1
    have h3 := p7 _ hm
    have h4 := spN_le (resT kd n).2.2.2
    rw [show j - b = atL (LT kd n) i by omega]
    rw [p8 _ (by omega), decide_eq_true hm, decide_eq_true (show b ≤ j by omega)]
    rfl
  · rw [if_neg h2]
    cases h3 : (decide (b ≤ j) && (resT kd n).2.2.2.testBit (j - b)) with
    | false => rfl
    | true =>
      rw [Bool.and_eq_true, decide_eq_true_eq] at h3
      have h4 := tb_lt p3 h3.2
      have h5 := h3.2
      rw [p8 _ h4, decide_eq_true_eq] at h5
      obtain ⟨i, a1, a2⟩ := mem_at _ _ h5
      exact absurd ⟨i, a1, by omega⟩ h2
theorem pc_shift {z b : Nat} (h : z * 2 ^ b < 2 ^ 61) (hb : b ≤ 60) : pcN 64 (z * 2 ^ b) = pcN 64 z := by
  have hz : z < 2 ^ (61 - b) := by
    rw [show (2 : Nat) ^ 61 = 2 ^ (61 - b) * 2 ^ b by rw [← Nat.pow_add]; congr 1; omega] at h
    exact Nat.lt_of_mul_lt_mul_right h
  unfold pcN
  have e1 : fb_ct (fun k => (z * 2 ^ b).testBit k) (b + (64 - b)) = fb_ct (fun k => z.testBit k) (64 - b) := by
    rw [fb_ct_split, fb_ct_zero.mpr (fun k hk => by rw [Nat.testBit_mul_two_pow]; simp; omega), Nat.zero_add]
    exact fb_ct_cong (fun k _ => by rw [Nat.testBit_mul_two_pow]; simp)
  have e2 : fb_ct (fun k => z.testBit k) ((64 - b) + b) = fb_ct (fun k => z.testBit k) (64 - b) := ct_above b (fun i hi => by
    show z.testBit i = false
    cases hq : z.testBit i with
    | false => rfl
    | true => have := tb_lt hz hq; omega)
  rw [show b + (64 - b) = 64 by omega] at e1
  rw [show (64 - b) + b = 64 by omega] at e2
  rw [e1, e2]
theorem stand_n {kd n b : Nat} (h : okN kd n) (hb : spN (resT kd n).2.2.2 + b ≤ 60) : pcN 64 ((resT kd n).2.2.2 * 2 ^ b) = (LT kd n).length := by
  have hr : resOk (resT kd n) = true := by
    rcases h with ⟨rfl, h1, h2⟩ | ⟨rfl, h1, h2⟩
    · exact resOk_r n h1 h2
    · exact resOk_c n h1 h2
  rw [pc_shift (resOk_sh hr hb) (by omega), (lt_parts h).2.1]
theorem lt_le {kd n k : Nat} (h : okN kd n) (hk : k < (LT kd n).length) : atL (LT kd n) k ≤ spN (resT kd n).2.2.2 := (lt_parts h).2.2.2.2.2.2.1 _ (at_mem _ k hk)
