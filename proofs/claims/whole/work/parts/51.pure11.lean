theorem lk_y {cf : Nat → Nat} {nn q a u : Nat} {b2 : Bool} (hq : 1 ≤ q) (ha : a = fb_ct (lkA cf nn) (q - 1)) (h : b2 = false) (hb : b2 = an (fun u => an (lkQ cf q u) nn) u) (hu : u = nn) : nI a + 1 = nI (fb_ct (lkA cf nn) q) := by
  obtain ⟨k, rfl⟩ : ∃ k, q = k + 1 := ⟨q - 1, by omega⟩
  refine ct_b1 ha ?_
  unfold lkA lkE
  rw [← hu] at hb ⊢
  rw [← hb, h]
  rfl
theorem lk_n {cf : Nat → Nat} {nn q a u : Nat} {b2 : Bool} (hq : 1 ≤ q) (ha : a = fb_ct (lkA cf nn) (q - 1)) (h : b2 = true) (hb : b2 = an (fun u => an (lkQ cf q u) nn) u) (hu : u = nn) : nI a + 0 = nI (fb_ct (lkA cf nn) q) := by
  obtain ⟨k, rfl⟩ : ∃ k, q = k + 1 := ⟨q - 1, by omega⟩
  refine ct_b0 ha ?_
  unfold lkA lkE
  rw [← hu] at hb ⊢
  rw [← hb, h]
  rfl
