theorem i_min {a b : Nat} (ha : a < 2 ^ 31) (hb : b < 2 ^ 31) : (if nI b < nI a then nI b else nI a) = nI (min a b) := by
  by_cases h : b < a
  · rw [if_pos (nI_lt h ha), Nat.min_eq_right (by omega)]
  · rw [if_neg (nI_nlt (by omega) hb), Nat.min_eq_left (by omega)]
theorem i_max {a b : Nat} (ha : a < 2 ^ 31) (hb : b < 2 ^ 31) : (if nI a < nI b then nI b else nI a) = nI (max a b) := by
  by_cases h : a < b
  · rw [if_pos (nI_lt h hb), Nat.max_eq_right (by omega)]
  · rw [if_neg (nI_nlt (by omega) ha), Nat.max_eq_left (by omega)]
theorem phv_lt {sk er : Nat → Int32} {a b : Nat} (h : a < b) : fm (sk (max a b - min a b) + er (max a b) - er (min a b)) 360 = phv sk er a b := by
  unfold phv
  rw [if_pos h, Nat.max_eq_right (by omega), Nat.min_eq_left (by omega)]
theorem phv_gt {sk er : Nat → Int32} {a b : Nat} (h : b < a) : fm (-(sk (max a b - min a b) + er (max a b) - er (min a b))) 360 = phv sk er a b := by
  unfold phv
  rw [if_neg (by omega), Nat.max_eq_left (by omega), Nat.min_eq_right (by omega)]
def lgc (cn : Nat) : Nat := if cn < 16 then cn + 1 else cn
