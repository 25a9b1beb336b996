theorem stR_ge (sz k nxt : Nat) : nxt ≤ stR sz k nxt := by
  unfold stR
  split <;> omega
theorem okT_n {nf : Nat → Int32} {last nxt y d : Nat} {t : List (Nat × Nat)} (h : okT nf ((last, nxt) :: t)) (hd : d = t.length + 1) (h1 : last < y) (h2 : y ≤ 61) : okT (upd nf d (nI y)) ((last, y) :: t) := by
  subst hd
  exact ⟨upd_at _ _ _, h1, h2, okT_up h.2.2.2 (by omega)⟩
theorem okT_p {nf : Nat → Int32} {x y d : Nat} {st : List (Nat × Nat)} (h : okT nf st) (hd : d = st.length + 1) (h1 : x < y) (h2 : y ≤ 61) : okT (upd nf d (nI y)) ((x, y) :: st) := by
  subst hd
  exact ⟨upd_at _ _ _, h1, h2, okT_up h (by omega)⟩
theorem coR_go {sz n last nxt k mark : Nat} {t : List (Nat × Nat)} {a : RAcc} (hk : n - 1 - (t.length + 1) = k) (hmk : stR sz k nxt = mark) (h : mark ≤ rTo sz k) (h0 : k ≠ 0) (hz : bkL (last :: msO t) * 2 ^ (mark - last) &&& lnL (last :: msO t) = 0) : coR sz n ((last, nxt) :: t) a = coR sz n ((mark, mark + 1) :: (last, mark + 1) :: t) (rTry a) := by
  obtain ⟨k, rfl⟩ : ∃ j, k = j + 1 := ⟨k - 1, by omega⟩
  rw [coR_step hk hmk h, rB_go hz, coR_push hk]
theorem coR_no {sz n last nxt k mark : Nat} {t : List (Nat × Nat)} {a : RAcc} (hk : n - 1 - (t.length + 1) = k) (hmk : stR sz k nxt = mark) (h : mark ≤ rTo sz k) (hz : ¬ bkL (last :: msO t) * 2 ^ (mark - last) &&& lnL (last :: msO t) = 0) : coR sz n ((last, nxt) :: t) a = coR sz n ((last, mark + 1) :: t) (rTry a) := by
  rw [coR_step hk hmk h, rB_no hz]
theorem coR_end {sz n last nxt k mark : Nat} {t : List (Nat × Nat)} {a : RAcc} (hk : n - 1 - (t.length + 1) = k) (hmk : stR sz k nxt = mark) (h : mark ≤ rTo sz k) (h0 : k = 0) (hz : bkL (last :: msO t) * 2 ^ (mark - last) &&& lnL (last :: msO t) = 0) : coR sz n ((last, nxt) :: t) a = coR sz n ((last, mark + 1) :: t) (rAdd (rTry a) (mkL (last :: msO t) ||| 2 ^ mark) (mark :: last :: msO t)) := by
  subst h0
  rw [coR_step hk hmk h, rB_end hz]
theorem coR_0 {sz n : Nat} (hn : 2 ≤ n) (a : RAcc) : coR sz n [(0, 1)] a = rT sz (n - 1) 0 1 0 1 [0] a := by
  obtain ⟨k, hk⟩ : ∃ k, n - 1 = k + 1 := ⟨n - 2, by omega⟩
  have h2 : n - 1 - (([] : List (Nat × Nat)).length + 1) = k := by simp only [List.length_nil]; omega
  rw [coR_c, h2, hk]
  rfl
theorem kn_shr {kn n : Nat} (hk : kn < 2 ^ 31) (hn : n < 31) : (nI kn >>> (nI n &&& 31)) &&& 1 = nI (kn / 2 ^ n % 2) := by
  rw [pk_shrN hk _ n (s_l n (by omega))]
  exact fa_mask _ 1
theorem kn_one {kn n : Nat} (h : nI (kn / 2 ^ n % 2) = 1) : kn.testBit n = true := by
  have := i_eq (b := 1) (by omega) (by decide) h
  rw [Nat.testBit_eq_decide_div_mod_eq]
  simp [this]
theorem kn_zero {kn n : Nat} (h : ¬ nI (kn / 2 ^ n % 2) = 1) : kn.testBit n = false := by
  have := i_ne (b := 1) h
  rw [Nat.testBit_eq_decide_div_mod_eq]
  simp [this]
/-- the rows of what was found -/
def sbF (kd kn : Nat) : Nat → Int32 := fun i => nI (fsOf kd kn i).1
def snF (kd kn : Nat) : Nat → Int32 := fun i => nI (fsOf kd kn i).2.1
def stF (kd kn : Nat) : Nat → Int32 := fun i => nI (fsOf kd kn i).2.2.1
theorem sb_up {kd kn n : Nat} : upd (sbF kd kn) n (nI (resT kd n).1) = sbF kd (kn ||| 2 ^ n) := by
  funext i
  unfold upd sbF
  by_cases h : i = n
  · rw [if_pos h, h, fsOf_at]
  · rw [if_neg h, fsOf_ne kd kn h]
theorem sn_up {kd kn n : Nat} : upd (snF kd kn) n (nI (resT kd n).2.1) = snF kd (kn ||| 2 ^ n) := by
  funext i
  unfold upd snF
  by_cases h : i = n
  · rw [if_pos h, h, fsOf_at]
  · rw [if_neg h, fsOf_ne kd kn h]
theorem st_up {kd kn n : Nat} : upd (stF kd kn) n (nI (resT kd n).2.2.1) = stF kd (kn ||| 2 ^ n) := by
  funext i
  unfold upd stF
  by_cases h : i = n
  · rw [if_pos h, h, fsOf_at]
  · rw [if_neg h, fsOf_ne kd kn h]
theorem sn_0 {kd kn n : Nat} (h : kn.testBit n = false) : upd (snF kd kn) n (nI 0) = snF kd kn := fa_upd_same (by unfold snF; rw [fsOf_un h])
theorem st_0 {kd kn n : Nat} (h : kn.testBit n = false) : upd (stF kd kn) n (nI 0) = stF kd kn := fa_upd_same (by unfold stF; rw [fsOf_un h])
theorem rR_done {n fu e sz : Nat} {a : RAcc} (h : ¬ nI a.1 = 0) : rR n fu e sz a = (sz, a) := by
  cases fu with
  | zero => rfl
  | succ fu => rw [rR_s, if_neg h]
theorem rr_pos {n : Nat} (h1 : 2 ≤ n) (h2 : n ≤ 7) : 0 < (rRes n).2.1 ∧ (rRes n).2.1 < 2 ^ 31 ∧ (rRes n).2.2.2.2.length = n := by
  have h : n = 2 ∨ n = 3 ∨ n = 4 ∨ n = 5 ∨ n = 6 ∨ n = 7 := by omega
  rcases h with rfl | rfl | rfl | rfl | rfl | rfl
  · rw [rTab_2]; decide
  · rw [rTab_3]; decide
  · rw [rTab_4]; decide
  · rw [rTab_5]; decide
  · rw [rTab_6]; decide
  · rw [rTab_7]; decide
theorem rr_len {n : Nat} (h : 1 ≤ n) : (n - 1) * (n - 1 + 1) / 2 = n * (n - 1) / 2 := by rw [show n - 1 + 1 = n by omega, Nat.mul_comm]
theorem rr_1 {n : Nat} (h : 2 ≤ n) (h2 : n ≤ 7) : 1 ≤ n * (n - 1) / 2 ∧ n * (n - 1) / 2 ≤ 21 := by
  have h3 : 2 * 1 ≤ n * (n - 1) := Nat.mul_le_mul h (by omega)
  have h4 : n * (n - 1) ≤ 7 * 6 := Nat.mul_le_mul h2 (by omega)
  omega
theorem rr_z {n L sz : Nat} {a : RAcc} (h1 : 2 ≤ n) (h2 : n ≤ 7) (hR : rR n (61 - (L + 1)) (L + 1) sz a = rRes n) (h0 : nI a.1 = 0) : L + 1 ≤ 60 := by
  rcases Nat.lt_or_ge (L + 1) 61 with q | q
  · omega
  · rw [show 61 - (L + 1) = 0 by omega] at hR
    have h3 := rr_pos h1 h2
    rw [← hR] at h3
    have h4 : 0 < a.1 ∧ a.1 < 2 ^ 31 ∧ _ := h3
    have := i_eq (b := 0) h4.2.1 (by decide) h0
    omega
theorem nr_end {mf rkv : Nat → Int32} {n k nb : Nat} (hk : k ≤ n) (hz : k ≠ 0 → nI nb = 0) (hn : 1 ≤ n) (h : k = n ∨ ¬ nI nb = 0) : cpy mf rkv (12 * n) k = if nI nb = 0 then cpy mf rkv (12 * n) n else rkv := by
  by_cases h0 : nI nb = 0
  · rw [if_pos h0]
    rcases h with rfl | h
    · rfl
    · exact absurd h0 h
  · rw [if_neg h0, show k = 0 by (rcases Nat.eq_zero_or_pos k with q | q; (· exact q); exact absurd (hz (by omega)) h0), cpy_0]
