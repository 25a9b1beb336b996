theorem k4_of {k sz : Nat} (h : (k + 1) * (k + 1 - 1) / 2 ≤ sz) : k * (k + 1) / 2 ≤ sz := by
  rw [Nat.add_sub_cancel, Nat.mul_comm] at h
  exact h
theorem k5_of {k sz : Nat} (h : k * (k + 1) / 2 ≤ sz) (hs : sz ≤ 60) : k ≤ 60 := by
  rcases Nat.lt_or_ge 60 k with q | q
  · have : 61 * 62 ≤ k * (k + 1) := Nat.mul_le_mul (by omega) (by omega)
    omega
  · exact q
theorem kk2_lt {k : Nat} (h : k ≤ 60) : k * (k + 1) < 2 ^ 31 := by
  have : k * (k + 1) ≤ 60 * 61 := Nat.mul_le_mul h (by omega)
  omega
theorem k3_le {k sz : Nat} (h : k * (k + 1) / 2 ≤ sz) : k * (k - 1) / 2 ≤ sz := by
  have : k * (k - 1) ≤ k * (k + 1) := Nat.mul_le_mul_left k (by omega)
  omega
theorem sp_lt2 {back last mark : Nat} (hb : back < 2 ^ (last + 1)) (hm : last + 1 ≤ mark) : back * 2 ^ (mark - last) < 2 ^ (mark + 1) := by
  have e : 2 ^ (mark + 1) = 2 ^ (last + 1) * 2 ^ (mark - last) := by rw [← Nat.pow_add]; congr 1; omega
  rw [e]
  exact Nat.mul_lt_mul_of_pos_right hb (Nat.pow_pos (by decide))
theorem sp_lt {back last mark : Nat} (hb : back < 2 ^ (last + 1)) (hm : last + 1 ≤ mark) (h : mark ≤ 60) : back * 2 ^ (mark - last) < 2 ^ 61 := Nat.lt_of_lt_of_le (sp_lt2 hb hm) (Nat.pow_le_pow_right (by decide) (by omega))
theorem or1_lt {x n : Nat} (h : x < 2 ^ (n + 1)) : x ||| 1 < 2 ^ (n + 1) := Nat.or_lt_two_pow h (by rw [Nat.pow_succ]; have := Nat.pow_pos (a := 2) (n := n) (by decide); omega)
theorem rR_s (n fu e sz : Nat) (a : RAcc) : rR n (fu + 1) e sz a = if nI a.1 = 0 then rR n fu (e + 1) e (rT e (n - 1) 0 1 0 1 [0] a) else (sz, a) := rfl
theorem cR_s (len fu mm sz : Nat) (a : RAcc) : cR len (fu + 1) mm sz a = if nI a.1 = 0 then (if mm * (mm - 1) / 2 < len then cR len fu (mm + 1) sz a else cR len fu (mm + 1) mm (cOne len mm a)) else (sz, a) := rfl
theorem pcQ_pow : ∀ j, j < 61 → pcN 64 (2 ^ j) = 1 := by decide +kernel
theorem kk1 (k : Nat) : nI k * (nI k - 1) = nI (k * (k - 1)) := by
  cases k with
  | zero => decide
  | succ k => rw [nI_pred, pk_mul, Nat.add_sub_cancel]
theorem lack_le {a p mo : Nat} (ha : a < 2 ^ 30) (hp : p < 2 ^ 30) (hm : mo < 2 ^ 30) : nI a - nI p ≤ nI mo ↔ a - p ≤ mo := by
  rw [fa_le, pk_sub_toInt ha hp, nI_toInt (by omega)]
  omega
theorem lack_0 {a p : Nat} (ha : a < 2 ^ 30) (hp : p < 2 ^ 30) : nI a - nI p = 0 ↔ a = p := by
  rw [fa_eq, pk_sub_toInt ha hp]
  have : (0 : Int32).toInt = 0 := by decide
  omega
theorem th_lt {lens sp a mark : Nat} (h1 : lens < 2 ^ 61) (h2 : sp < 2 ^ 61) (h3 : a ≤ 60) : lens ||| sp ||| 2 ^ (a - mark) < 2 ^ 61 := Nat.or_lt_two_pow (Nat.or_lt_two_pow h1 h2) (Nat.pow_lt_pow_right (by decide) (by omega))
theorem mo_lt {k sz : Nat} (h : k ≤ 60) (h2 : sz ≤ 60) : k * (sz - k) + k * (k - 1) / 2 < 2 ^ 30 ∧ k * (k - 1) < 2 ^ 31 := by
  have h3 : k * (sz - k) ≤ 60 * 60 := Nat.mul_le_mul h (by omega)
  have h4 : k * (k - 1) ≤ 60 * 60 := Nat.mul_le_mul h (by omega)
  omega
