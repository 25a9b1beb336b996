/-! Marks in their order; moved on by b they keep what lies between them. -/
theorem pcN_61 {m : Nat} (hm : m < 2 ^ 61) : fb_ct (fun k => m.testBit k) 61 = pcN 64 m := by
  have h : fb_ct (fun k => m.testBit k) (61 + 3) = fb_ct (fun k => m.testBit k) 61 := ct_above (p := fun k => m.testBit k) (k := 61) 3 (fun i h => by
    show m.testBit i = false
    cases hb : m.testBit i with
    | false => rfl
    | true => have := tb_lt hm hb; omega)
  exact h.symm
def MK (m n : Nat) (X : Nat → Nat) : Prop := m < 2 ^ 61 ∧ pcN 64 m = n ∧ (∀ j, j < n → m.testBit (X j) = true ∧ fb_ct (fun k => m.testBit k) (X j) = j) ∧ (∀ i j, i < j → j < n → X i < X j) ∧ ∀ q, m.testBit q = true → ∃ j, j < n ∧ q = X j
theorem MK.le {m n : Nat} {X : Nat → Nat} (h : MK m n X) {j : Nat} (hj : j < n) : X j ≤ 60 := by
  have := tb_lt h.1 (h.2.2.1 j hj).1
  omega
theorem MK.tb {m n : Nat} {X : Nat → Nat} (h : MK m n X) {j : Nat} (hj : j < n) : m.testBit (X j) = true := (h.2.2.1 j hj).1
theorem MK.at {m n : Nat} {X : Nat → Nat} (h : MK m n X) {j : Nat} (hj : j < n) : mkA m (nI j) = nI (X j) := by
  have h1 := mkA_hit h.1 (h.tb hj)
  rw [(h.2.2.1 j hj).2] at h1
  exact h1
theorem MK.inj {m n : Nat} {X : Nat → Nat} (h : MK m n X) {i j : Nat} (hi : i < n) (hj : j < n) (e : X i = X j) : i = j := by
  rcases Nat.lt_trichotomy i j with q | q | q
  · have := h.2.2.2.1 i j q hj; omega
  · exact q
  · have := h.2.2.2.1 j i q hi; omega
theorem MK.n60 {m n : Nat} {X : Nat → Nat} (h : MK m n X) : n ≤ 61 := by
  have h1 := h.2.1
  rw [← h1, ← pcN_61 h.1]
  exact pcN_le 61 m
theorem MK.drop {m n : Nat} {X : Nat → Nat} (h : MK m (n + 1) X) : MK (bcm m (X 0) (-6)) n (fun j => X (j + 1)) := by
  have h0 := h.le (Nat.succ_pos n)
  have hb0 := h.tb (Nat.succ_pos n)
  refine ⟨bcm_lt h.1 h0, ?_, fun j hj => ⟨?_, ?_⟩, fun i j a b => h.2.2.2.1 _ _ (by omega) (by omega), fun q hq => ?_⟩
  · have h1 := pc_bcm m (X 0) (-6) h0
    rw [hb0, if_pos rfl, if_pos rfl, h.2.1] at h1
    omega
  · have h2 := h.2.2.2.1 0 (j + 1) (by omega) (by omega)
    show (bcm m (X 0) (-6)).testBit (X (j + 1)) = true
    rw [bcm_tb, if_neg (by omega)]
    exact h.tb (by omega)
  · have h2 := h.2.2.2.1 0 (j + 1) (by omega) (by omega)
    have h3 := fb_ct_upd (fun k => m.testBit k) false h2
    rw [(h.2.2.1 (j + 1) (by omega)).2] at h3
    have h4 : fb_ct (fun k => (bcm m (X 0) (-6)).testBit k) (X (j + 1)) = fb_ct (fun k => if k = X 0 then false else m.testBit k) (X (j + 1)) := fb_ct_cong (fun k _ => by rw [bcm_tb]; rfl)
    rw [h4]
    have h5 : (if (fun k => m.testBit k) (X 0) = true then 1 else 0) = 1 := if_pos hb0
    rw [h5, if_neg (by decide)] at h3
    omega
  · rw [bcm_tb] at hq
    by_cases e : q = X 0
    · rw [if_pos e] at hq
      exact absurd hq (by decide)
    · rw [if_neg e] at hq
      obtain ⟨j, hj, hx⟩ := h.2.2.2.2 q hq
      rcases Nat.eq_zero_or_pos j with z | z
      · exact absurd (by rw [hx, z]) e
      · exact ⟨j - 1, by omega, by rw [hx]; show X j = X (j - 1 + 1); rw [Nat.sub_add_cancel z]⟩
theorem MK.zero {m : Nat} {X : Nat → Nat} (h : MK m 0 X) : m = 0 := by
  refine Nat.eq_of_testBit_eq (fun i => ?_)
  rw [Nat.zero_testBit]
  cases hb : m.testBit i with
  | false => rfl
  | true =>
    obtain ⟨j, hj, -⟩ := h.2.2.2.2 i hb
    exact absurd hj (Nat.not_lt_zero j)
theorem sh_tb (m b i : Nat) : (m * 2 ^ b).testBit i = (decide (b ≤ i) && m.testBit (i - b)) := by
  rw [← Nat.shiftLeft_eq, Nat.testBit_shiftLeft]
theorem sh_tbp (m b i : Nat) : (m * 2 ^ b).testBit (b + i) = m.testBit i := by
  rw [sh_tb, decide_eq_true (Nat.le_add_right b i), Nat.add_sub_cancel_left, Bool.true_and]
theorem sh_ct (m b n : Nat) : fb_ct (fun k => (m * 2 ^ b).testBit k) (b + n) = fb_ct (fun k => m.testBit k) n := by
  rw [fb_ct_split]
  have h1 : fb_ct (fun k => (m * 2 ^ b).testBit k) b = 0 := fb_ct_zero.mpr (fun k hk => by rw [sh_tb, decide_eq_false (by omega)]; rfl)
  rw [h1, Nat.zero_add]
  exact fb_ct_cong (fun k _ => sh_tbp m b k)
theorem sh_lt {m b : Nat} (h : m * 2 ^ b < 2 ^ 61) (h0 : m ≠ 0) : b ≤ 60 := by
  have h1 : 2 ^ b ≤ m * 2 ^ b := Nat.le_mul_of_pos_left _ (by omega)
  have h2 : 2 ^ b < 2 ^ 61 := Nat.lt_of_le_of_lt h1 h
  have := (Nat.pow_lt_pow_iff_right (by decide : 1 < 2)).mp h2
  omega
theorem sh_pc {m b : Nat} (h : m * 2 ^ b < 2 ^ 61) (hb : b ≤ 60) : pcN 64 (m * 2 ^ b) = pcN 64 m := by
  have h1 : pcN 64 (m * 2 ^ b) = fb_ct (fun k => (m * 2 ^ b).testBit k) (b + 64) := by
    unfold pcN
    rw [show b + 64 = 64 + b by omega, ct_above b (fun i hi => ?_)]
    cases q : (m * 2 ^ b).testBit i with
    | false => rfl
    | true => have := tb_lt h q; omega
  rw [h1, sh_ct]
  rfl
theorem sh_and (m b d : Nat) : (m * 2 ^ b) &&& ((m * 2 ^ b) / 2 ^ d) = (m &&& (m / 2 ^ d)) * 2 ^ b := by
  refine Nat.eq_of_testBit_eq (fun i => ?_)
  rw [Nat.testBit_and, Nat.testBit_div_two_pow, sh_tb, sh_tb, sh_tb, Nat.testBit_and, Nat.testBit_div_two_pow]
  by_cases e : b ≤ i
  · rw [decide_eq_true e, decide_eq_true (show b ≤ i + d by omega), show i + d - b = i - b + d by omega]
    simp
  · rw [decide_eq_false e]
    simp
theorem sh_of {m b : Nat} (h : m * 2 ^ b < 2 ^ 61) (hb : b ≤ 60) (d : Nat) : ofN (m * 2 ^ b) d = ofN m d := by
  unfold ofN
  rw [sh_and]
  exact sh_pc (Nat.lt_of_le_of_lt (Nat.mul_le_mul_right _ Nat.and_le_left) h) hb
theorem re_cong {m m2 : Nat} (h : ∀ d, ofN m d = ofN m2 d) : ∀ n d, reF m n d = reF m2 n d
  | 0, _ => rfl
  | n + 1, d => by
    unfold reF
    rw [h d, re_cong h n (d + 1)]
theorem sp_cong {m m2 : Nat} (h : ∀ d, ofN m d = ofN m2 d) : ∀ n, spF m n = spF m2 n
  | 0 => rfl
  | n + 1 => by
    unfold spF
    rw [h (n + 1), sp_cong h n]
theorem MK.sh {m n b : Nat} {X : Nat → Nat} (h : MK m n X) (hb : b ≤ 60) (hl : m * 2 ^ b < 2 ^ 61) : MK (m * 2 ^ b) n (fun j => b + X j) := by
  refine ⟨hl, by rw [sh_pc hl hb]; exact h.2.1, fun j hj => ⟨by rw [sh_tbp]; exact h.tb hj, by rw [sh_ct]; exact (h.2.2.1 j hj).2⟩, fun i j a c => Nat.add_lt_add_left (h.2.2.2.1 i j a c) b, fun q hq => ?_⟩
  rw [sh_tb, Bool.and_eq_true, decide_eq_true_eq] at hq
  obtain ⟨j, hj, e⟩ := h.2.2.2.2 _ hq.2
  exact ⟨j, hj, by show q = b + X j; rw [← e]; omega⟩
def cvX (m j : Nat) : Nat := (mkA m (nI j)).toNatClampNeg
theorem cov_m : ∀ n, n < 21 → 3 ≤ n → (tb1 n).2.2.2 < 2 ^ (n + 1) ∧ pcN 64 (tb1 n).2.2.2 = dueC n ∧ (∀ j, j < dueC n → ((tb1 n).2.2.2).testBit (cvX (tb1 n).2.2.2 j) = true ∧ fb_ct (fun k => ((tb1 n).2.2.2).testBit k) (cvX (tb1 n).2.2.2 j) = j) ∧ (∀ j, j < dueC n → ∀ i, i < j → cvX (tb1 n).2.2.2 i < cvX (tb1 n).2.2.2 j) ∧ (∀ q, q < 61 → (((tb1 n).2.2.2).testBit q = true → (List.range (dueC n)).any (fun j => decide (q = cvX (tb1 n).2.2.2 j)) = true)) := by decide +kernel
theorem cov_n : ∀ n, n < 21 → 3 ≤ n → reN (tb1 n).2.2.2 = n ∧ spN (tb1 n).2.2.2 = n ∧ cvX (tb1 n).2.2.2 0 = 0 ∧ cvX (tb1 n).2.2.2 (dueC n - 1) = n ∧ 3 ≤ dueC n ∧ dueC n ≤ 8 := by decide +kernel
/-- the dishes by a cover of l, moved on by b -/
def DD (m n l b : Nat) (X : Nat → Nat) : Prop := MK m n X ∧ reN m = l ∧ spN m = l ∧ X 0 = b ∧ X (n - 1) = b + l ∧ 3 ≤ n ∧ n ≤ 8 ∧ 3 ≤ l ∧ l ≤ 20 ∧ b + l ≤ 60
theorem dd_of {l b : Nat} (h3 : 3 ≤ l) (h20 : l ≤ 20) (hb : b + l ≤ 60) : DD ((tb1 l).2.2.2 * 2 ^ b) (dueC l) l b (fun j => b + cvX (tb1 l).2.2.2 j) := by
  obtain ⟨a1, a2, a3, a4, a5⟩ := cov_m l (by omega) h3
  obtain ⟨b1, b2, b3, b4, b5, b6⟩ := cov_n l (by omega) h3
  have hlt : (tb1 l).2.2.2 < 2 ^ 61 := Nat.lt_of_lt_of_le a1 (Nat.pow_le_pow_right (by decide) (by omega))
  have hm : (tb1 l).2.2.2 * 2 ^ b < 2 ^ 61 := by
    have h2 : 2 ^ (l + 1) * 2 ^ b ≤ 2 ^ 61 := by rw [← Nat.pow_add]; exact Nat.pow_le_pow_right (by decide) (by omega)
    exact Nat.lt_of_lt_of_le (Nat.mul_lt_mul_of_pos_right a1 (Nat.pow_pos (by decide))) h2
  have hb6 : b ≤ 60 := by omega
  have hk : MK (tb1 l).2.2.2 (dueC l) (cvX (tb1 l).2.2.2) := ⟨hlt, a2, a3, fun i j c d => a4 j d i c, fun q hq => by
    obtain ⟨j, c, d⟩ := List.any_eq_true.mp (a5 q (tb_lt hlt hq) hq)
    exact ⟨j, List.mem_range.mp c, of_decide_eq_true d⟩⟩
  refine ⟨hk.sh hb6 hm, ?_, ?_, ?_, ?_, b5, b6, h3, h20, hb⟩
  · unfold reN
    rw [re_cong (sh_of hm hb6)]
    exact b1
  · unfold spN
    rw [sp_cong (sh_of hm hb6)]
    exact b2
  · show b + cvX (tb1 l).2.2.2 0 = b
    rw [b3]
    rfl
  · show b + cvX (tb1 l).2.2.2 (dueC l - 1) = b + l
    rw [b4]
