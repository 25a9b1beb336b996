/-! Spans. -/
theorem tb_lt {m n k : Nat} (hm : m < 2 ^ n) (h : m.testBit k = true) : k < n := by
  rcases Nat.lt_or_ge k n with q | q
  · exact q
  · have h1 := Nat.testBit_lt_two_pow (x := m) (i := k) (Nat.lt_of_lt_of_le hm (Nat.pow_le_pow_right (by decide) q))
    rw [h1] at h
    cases h
theorem mkF_hit {m j q : Nat} (hq : m.testBit q = true) (hc : fb_ct (fun k => m.testBit k) q = j) (hj : j < 2 ^ 31) (hq2 : q ≤ 60) : ∀ n k a, k + n = 61 → k ≤ q → a = fb_ct (fun k => m.testBit k) k → mkF m (nI j) n k a = nI q
  | 0, k, a, h1, h2, _ => by omega
  | n + 1, k, a, h1, h2, h3 => by
    have ha : a ≤ k := by rw [h3]; exact fb_ct_le _ k
    unfold mkF
    by_cases hb : m.testBit k = true
    · rw [if_pos hb]
      by_cases he : nI a = nI j
      · have haj := i_eq (by omega) hj he
        have hk : k = q := fb_ct_kth_one (p := fun k => m.testBit k) hb hq (by rw [hc, ← haj, h3])
        rw [if_pos he, hk]
      · rw [if_neg he]
        have hk : k ≠ q := fun z => he (by rw [h3, z, hc])
        exact mkF_hit hq hc hj hq2 n (k + 1) (a + 1) (by omega) (by omega) (by rw [fb_ct_succ, h3]; simp [hb])
    · rw [if_neg hb]
      have hk : k ≠ q := fun z => hb (by rw [z]; exact hq)
      exact mkF_hit hq hc hj hq2 n (k + 1) a (by omega) (by omega) (by rw [fb_ct_succ, h3]; simp [hb])
theorem mkF_miss {m : Nat} {i : Int32} : ∀ n k a, k + n = 61 → a = fb_ct (fun k => m.testBit k) k → (∀ q, k ≤ q → q ≤ 60 → m.testBit q = true → nI (fb_ct (fun k => m.testBit k) q) ≠ i) → mkF m i n k a = -6
  | 0, k, a, h1, _, _ => rfl
  | n + 1, k, a, h1, h3, h => by
    unfold mkF
    by_cases hb : m.testBit k = true
    · rw [if_pos hb, if_neg (by rw [h3]; exact h k (Nat.le_refl _) (by omega) hb)]
      exact mkF_miss n (k + 1) (a + 1) (by omega) (by rw [fb_ct_succ, h3]; simp [hb]) (fun q h1 h2 h3 => h q (by omega) h2 h3)
    · rw [if_neg hb]
      exact mkF_miss n (k + 1) a (by omega) (by rw [fb_ct_succ, h3]; simp [hb]) (fun q h1 h2 h3 => h q (by omega) h2 h3)
theorem mkA_hit {m q : Nat} (hm : m < 2 ^ 61) (hq : m.testBit q = true) : mkA m (nI (fb_ct (fun k => m.testBit k) q)) = nI q := by
  have h1 := tb_lt hm hq
  have h2 := fb_ct_le (fun k => m.testBit k) q
  exact mkF_hit hq rfl (by omega) (by omega) 61 0 0 (by decide) (by omega) rfl
theorem mkA_miss {m : Nat} {i : Int32} (h : ∀ q, q ≤ 60 → m.testBit q = true → nI (fb_ct (fun k => m.testBit k) q) ≠ i) : mkA m i = -6 := mkF_miss 61 0 0 (by decide) rfl (fun q _ h2 h3 => h q h2 h3)
theorem ofN_ne {m d : Nat} (hm : m < 2 ^ 61) : ofN m d ≠ 0 ↔ ∃ k, m.testBit k = true ∧ m.testBit (k + d) = true := by
  unfold ofN pcN
  rw [← Nat.pos_iff_ne_zero, fb_ct_pos]
  constructor
  · rintro ⟨k, -, h⟩
    rw [Nat.testBit_and, Nat.testBit_div_two_pow] at h
    exact ⟨k, by simpa using h⟩
  · rintro ⟨k, h1, h2⟩
    refine ⟨k, ?_, ?_⟩
    · have := tb_lt hm h1; omega
    · rw [Nat.testBit_and, Nat.testBit_div_two_pow]
      simp [h1, h2]
theorem spF_char {m s : Nat} (hs : s = 0 ∨ ofN m s ≠ 0) : ∀ n, s ≤ n → (∀ d, s < d → d ≤ n → ofN m d = 0) → spF m n = s
  | 0, h1, _ => by have : s = 0 := by omega
                   rw [this]; rfl
  | n + 1, h1, h2 => by
    unfold spF
    by_cases h : s = n + 1
    · rw [if_neg (by rcases hs with z | z; (· omega); rw [← h]; exact z), h]
    · rw [if_pos (h2 (n + 1) (by omega) (by omega))]
      exact spF_char hs n (by omega) (fun d a b => h2 d a (by omega))
/-- the least and the greatest mark -/
theorem ends {m : Nat} (hm : m < 2 ^ 61) (h0 : m ≠ 0) : ∃ lo hi, lo ≤ hi ∧ hi ≤ 60 ∧ m.testBit lo = true ∧ m.testBit hi = true ∧ (∀ k, m.testBit k = true → lo ≤ k ∧ k ≤ hi) := by
  have hex : ∃ i, i < 61 ∧ m.testBit i = true := by
    rcases Classical.em (∃ i, i < 61 ∧ m.testBit i = true) with h | h
    · exact h
    · refine absurd (Nat.eq_of_testBit_eq (x := m) (y := 0) (fun i => ?_)) h0
      rw [Nat.zero_testBit]
      cases hb : m.testBit i with
      | false => rfl
      | true => exact absurd ⟨i, tb_lt hm hb, hb⟩ h
  obtain ⟨lo, h1, h2, h3⟩ := fb_first (p := fun i => m.testBit i = true) hex
  obtain ⟨hi, h4, h5, h6⟩ := fb_last (p := fun i => m.testBit i = true) hex
  have key : ∀ k, m.testBit k = true → lo ≤ k ∧ k ≤ hi := fun k hk => by
    have hl := tb_lt hm hk
    refine ⟨?_, ?_⟩
    · rcases Nat.lt_or_ge k lo with q | q
      · exact absurd hk (h3 k q)
      · exact q
    · rcases Nat.lt_or_ge hi k with q | q
      · exact absurd hk (h6 k q hl)
      · exact q
  exact ⟨lo, hi, (key hi h5).1, by omega, h2, h5, key⟩
theorem ct_above {p : Nat → Bool} {k : Nat} : ∀ n, (∀ i, k ≤ i → p i = false) → fb_ct p (k + n) = fb_ct p k
  | 0, _ => rfl
  | n + 1, h => by rw [← Nat.add_assoc, fb_ct_succ, ct_above n h, h (k + n) (by omega)]; rfl
theorem sp_ends {m lo hi : Nat} (hm : m < 2 ^ 61) (h1 : lo ≤ hi) (h2 : hi ≤ 60) (h3 : m.testBit lo = true) (h4 : m.testBit hi = true) (h5 : ∀ k, m.testBit k = true → lo ≤ k ∧ k ≤ hi) : spN m = hi - lo := by
  refine spF_char ?_ 60 (by omega) (fun d ha hb => ?_)
  · right
    exact (ofN_ne hm).mpr ⟨lo, h3, by rw [show lo + (hi - lo) = hi by omega]; exact h4⟩
  · rcases Nat.eq_zero_or_pos (ofN m d) with z | z
    · exact z
    · obtain ⟨k, k1, k2⟩ := (ofN_ne hm).mp (by omega : ofN m d ≠ 0)
      have a1 := h5 k k1
      have a2 := h5 _ k2
      omega
theorem span_eq {m : Nat} (hm : m < 2 ^ 61) (h0 : m ≠ 0) : mkA m (nI (pcN 64 m) - 1) - mkA m 0 = nI (spN m) := by
  obtain ⟨lo, hi, h1, h2, h3, h4, h5⟩ := ends hm h0
  have c1 : pcN 64 m = fb_ct (fun k => m.testBit k) hi + 1 := by
    unfold pcN
    rw [show (64 : Nat) = (hi + 1) + (63 - hi) by omega, ct_above _ (fun i h => ?_), fb_ct_succ]
    · simp [h4]
    · cases hb : m.testBit i with
      | false => rfl
      | true => have := (h5 i hb).2; omega
  have c2 : fb_ct (fun k => m.testBit k) lo = 0 := fb_ct_zero.mpr (fun k hk => by
    cases hb : m.testBit k with
    | false => rfl
    | true => have := (h5 k hb).1; omega)
  rw [c1, nI_pred, mkA_hit hm h4]
  have e := mkA_hit hm h3
  rw [c2] at e
  rw [show (0 : Int32) = nI 0 from rfl, e, pk_sub h1, sp_ends hm h1 h2 h3 h4 h5]
theorem lN_0 {m : Nat} (hm : m < 2 ^ 64) : lg_cmp (lN m) 0 = 0 ↔ m = 0 := by
  rw [lg0]
  exact ⟨fun h => lN_inj64 hm (by decide) h, fun h => by rw [h]; rfl⟩
theorem sp_0 : spN 0 = 0 := by decide +kernel
