/-! Twelve in a row. -/
def rw12 (i b : Nat) : Nat := (2 ^ i - 1) * 2 ^ b
theorem r12_k : ∀ b, b < 49 → ∀ i, i < 12 → bcm (rw12 i b) (b + i) 0 = rw12 (i + 1) b ∧ pcN 64 (rw12 i b) = i ∧ (rw12 i b).testBit (b + i) = false := by decide +kernel
theorem r12_0 (b : Nat) : rw12 0 b = 0 := by unfold rw12; rw [show 2 ^ 0 - 1 = 0 from rfl, Nat.zero_mul]
theorem r12_p : ∀ b, b < 49 → pcN 64 (rw12 12 b) = 12 ∧ putOk (rw12 12 b) (nI (b + 12)) = false ∧ putR (rw12 12 b) (nI (b + 12)) = -4 := by decide +kernel
theorem r12_f : ∀ b, b < 49 → faR (rw12 12 b) 2 = 11 ∧ faR (rw12 12 b) 4 = 55 ∧ faR (rw12 12 b) 6 = 1 ∧ spcR (rw12 12 b) 1 = 11 ∧ spcR (rw12 12 b) 11 = 1 := by decide +kernel
theorem mm_of2 {m ny q : Nat} (hn : ny < 2 ^ 61) (hq : ny.testBit q = true) : ∃ t, ny.testBit t = true ∧ mmA m ny = nI t ∧ (∀ j, ny.testBit j = true → LQ m t ≤ LQ m j) ∧ ∀ j, j < t → ny.testBit j = true → LQ m t < LQ m j := by
  obtain ⟨le2, h⟩ := mmF_p m ny 61 0 61 (-6) (by decide) (Or.inl ⟨rfl, rfl, fun j hj => absurd hj (Nat.not_lt_zero j)⟩)
  rcases h with ⟨-, -, h3⟩ | ⟨t, h1, h2, h3, h4, h5, h6⟩
  · rw [h3 q (tb_lt hn hq)] at hq; cases hq
  · exact ⟨t, h4, h2, fun j hj => h5 j (tb_lt hn hj) hj, h6⟩
theorem r12_l : ∀ j, j < 12 → LQ 4095 j = (if j = 0 then 10 else if j = 11 then 10 else 11) := by decide +kernel
theorem r12_b0 : MK 4095 12 (fun j => j) := by
  refine ⟨by decide, by decide +kernel, fun j hj => ?_, fun i j h _ => h, fun q hq => ⟨q, tb_lt (by decide : 4095 < 2 ^ 12) hq, rfl⟩⟩
  exact (show ∀ j, j < 12 → (4095 : Nat).testBit j = true ∧ fb_ct (fun k => (4095 : Nat).testBit k) j = j by decide +kernel) j hj
theorem r12_lt {b : Nat} (hb : b < 49) : 4095 * 2 ^ b < 2 ^ 61 := by
  have h1 : 2 ^ b ≤ 2 ^ 48 := Nat.pow_le_pow_right (by decide) (by omega)
  have h2 : (2 : Nat) ^ 48 = 281474976710656 := by decide
  have h3 : (2 : Nat) ^ 61 = 2305843009213693952 := by decide
  omega
theorem r12_mk {b : Nat} (hb : b < 49) : MK (rw12 12 b) 12 (fun j => b + j) := r12_b0.sh (by omega) (r12_lt hb)
theorem sh_wo (m b j : Nat) : woN (m * 2 ^ b) (2 ^ (b + j)) = woN m (2 ^ j) * 2 ^ b := by
  refine Nat.eq_of_testBit_eq (fun i => ?_)
  rw [wo_tb, sh_tb, sh_tb, wo_tb, Nat.testBit_two_pow, Nat.testBit_two_pow]
  by_cases e : b ≤ i
  · rw [decide_eq_true e, show decide (b + j = i) = decide (j = i - b) from decide_eq_decide.mpr ⟨fun h => by omega, fun h => by omega⟩]
    simp
  · rw [decide_eq_false e]
    simp
theorem sh_LQ {m b : Nat} (h : m * 2 ^ b < 2 ^ 61) (hb : b ≤ 60) (j : Nat) : LQ (m * 2 ^ b) (b + j) = LQ m j := by
  unfold LQ reN
  rw [sh_wo]
  have h1 : woN m (2 ^ j) * 2 ^ b < 2 ^ 61 := by
    rw [← sh_wo]
    exact wo_lt _ h
  rw [re_cong (sh_of h1 hb)]
theorem r12_L {b j : Nat} (hb : b < 49) (hj : j < 12) : LQ (rw12 12 b) (b + j) = (if j = 0 then 10 else if j = 11 then 10 else 11) := by
  show LQ (4095 * 2 ^ b) (b + j) = _
  rw [sh_LQ (r12_lt hb) (by omega)]
  exact r12_l j hj
theorem r12_a {b : Nat} (hb : b < 49) : mmA (rw12 12 b) (rw12 12 b) = nI b := by
  have hk := r12_mk hb
  obtain ⟨t, h1, h2, h3, h4⟩ := mm_of2 (m := rw12 12 b) hk.1 (hk.tb (j := 0) (by decide))
  obtain ⟨j, hj, e⟩ := hk.2.2.2.2 t h1
  have e : t = b + j := e
  have a1 := h3 (b + 0) (hk.tb (j := 0) (by decide))
  rw [e, r12_L hb hj, r12_L hb (by decide)] at a1
  by_cases j0 : j = 0
  · rw [h2, e, j0]; rfl
  · have a2 := h4 (b + 0) (by omega) (hk.tb (j := 0) (by decide))
    rw [e, r12_L hb hj, r12_L hb (by decide), if_neg j0] at a2
    rw [if_pos rfl] at a2
    by_cases j11 : j = 11
    · rw [if_pos j11] at a2; omega
    · rw [if_neg j11] at a2; omega
theorem r12_c {b : Nat} (hb : b < 49) : mmA (rw12 12 b) (woN (rw12 12 b) (2 ^ b)) = nI (b + 11) := by
  have hk := r12_mk hb
  have hb11 : (woN (rw12 12 b) (2 ^ b)).testBit (b + 11) = true := by
    rw [wo_tb, hk.tb (j := 11) (by decide), Nat.testBit_two_pow, decide_eq_false (by omega)]
    rfl
  obtain ⟨t, h1, h2, h3⟩ := mm_of (m := rw12 12 b) (ny := woN (rw12 12 b) (2 ^ b)) (wo_lt _ hk.1) hb11
  rw [wo_tb, Nat.testBit_two_pow, Bool.and_eq_true] at h1
  obtain ⟨j, hj, e⟩ := hk.2.2.2.2 t h1.1
  have e : t = b + j := e
  have j0 : j ≠ 0 := fun z => by
    have := h1.2
    rw [e, z, Nat.add_zero, decide_eq_true rfl] at this
    cases this
  have a1 := h3 (b + 11) hb11
  rw [e, r12_L hb hj, r12_L hb (by decide), if_neg j0] at a1
  by_cases j11 : j = 11
  · rw [h2, e, j11]
  · rw [if_neg j11] at a1
    exact absurd a1 (by decide)
theorem r12_m {b : Nat} (hb : b < 49) : sureR (rw12 12 b) = 10 ∧ misR (rw12 12 b) 0 = nI b ∧ misR (rw12 12 b) 1 = nI (b + 11) ∧ leftR (rw12 12 b) (nI (b + 5)) = 11 := by
  have hk := r12_mk hb
  have hp := hk.2.1
  refine ⟨?_, ?_, ?_, ?_⟩
  · unfold sureR
    rw [if_neg (by rw [hp]; decide), r12_a hb, bitO_nI (by omega)]
    exact congrArg nI (r12_L (j := 0) hb (by decide))
  · unfold misR
    rw [if_pos (by rw [hp]; decide)]
    exact r12_a hb
  · unfold misR
    rw [if_pos (by rw [hp]; decide)]
    show mmA (rw12 12 b) (woN (rw12 12 b) (bitO (mmA (rw12 12 b) (rw12 12 b)))) = nI (b + 11)
    rw [r12_a hb, bitO_nI (by omega)]
    exact r12_c hb
  · unfold leftR
    rw [if_pos (by rw [stn_nI (by omega)]; exact hk.tb (j := 5) (by decide)), bitO_nI (by omega)]
    exact congrArg nI (r12_L (j := 5) hb (by decide))
