theorem k4_of {k sz : Nat} (h : (k + 1) * (k + 1 - 1) / 2 ≤ sz) : k * (k + 1) / 2 ≤ sz := by
  rw [Nat.add_sub_cancel, Nat.mul_comm] at h
  exact h
theorem k5_of {k sz : Nat} (h : k * (k + 1) / 2 ≤ sz) (hs : sz ≤ 60) : k ≤ 60 := by
  rcases Nat.lt_or_ge 60 k with q | q
  · have : 61 * 62 ≤ k * (k + 1) := Nat.mul_le_mul (by omega) (by omega)
    omega
  · exact q
theorem kk2_lt {k : Nat} (h : k ≤ 60) : k * (k + 1) < 2 ^ 31 := by
  have : k * (k + 1) ≤ 60 * 61 := Nat.mul_le_mul h (by omega)
  omega
theorem k3_le {k sz : Nat} (h : k * (k + 1) / 2 ≤ sz) : k * (k - 1) / 2 ≤ sz := by
  have : k * (k - 1) ≤ k * (k + 1) := Nat.mul_le_mul_left k (by omega)
  omega
theorem sp_lt2 {back last mark : Nat} (hb : back < 2 ^ (last + 1)) (hm : last + 1 ≤ mark) : back * 2 ^ (mark - last) < 2 ^ (mark + 1) := by
  have e : 2 ^ (mark + 1) = 2 ^ (last + 1) * 2 ^ (mark - last) := by rw [← Nat.pow_add]; congr 1; omega
  rw [e]
  exact Nat.mul_lt_mul_of_pos_right hb (Nat.pow_pos (by decide))
theorem sp_lt {back last mark : Nat} (hb : back < 2 ^ (last + 1)) (hm : last + 1 ≤ mark) (h : mark ≤ 60) : back * 2 ^ (mark - last) < 2 ^ 61 := Nat.lt_of_lt_of_le (sp_lt2 hb hm) (Nat.pow_le_pow_right (by decide) (by omega))
theorem or1_lt {x n : Nat} (h : x < 2 ^ (n + 1)) : x ||| 1 < 2 ^ (n + 1) := Nat.or_lt_two_pow h (by rw [Nat.pow_succ]; have := Nat.pow_pos (a := 2) (n := n) (by decide); omega)
