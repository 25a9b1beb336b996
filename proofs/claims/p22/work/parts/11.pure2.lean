/-! The remainder that is not less than 0; dishes, the log, what was found. -/
def fm (x y : Int32) : Int32 := if (x ^^^ y) < 0 ∧ ¬ (x - x / y * y) = 0 then (x - x / y * y) + y else x - x / y * y
theorem fm16 : ∀ r, r < 17 → fm (nI r) 16 = nI (r % 16) := by decide +kernel
theorem fm16p : ∀ r, r < 16 → fm (nI r - 1) 16 = nI ((r + 15) % 16) := by decide +kernel
def erX (er : Nat → Int32) (x : Int32) : Int32 := if inS x = true then er x.toNatClampNeg else -6
def skX (sk : Nat → Int32) (x : Int32) : Int32 := if inL x = true then sk x.toNatClampNeg else 0
theorem erX_nI {er : Nat → Int32} {k : Nat} (h : k ≤ 60) : erX er (nI k) = er k := by
  unfold erX
  rw [inS_nI (by omega), nI_clamp (by omega)]
  simp [h]
theorem skX_nI {sk : Nat → Int32} {k : Nat} (h1 : 1 ≤ k) (h : k ≤ 60) : skX sk (nI k) = sk k := by
  unfold skX
  rw [inL_nI (by omega), nI_clamp (by omega)]
  simp [h1, h]
/-- the line with, or (-6) without, a mark -/
def bcm (m k : Nat) (v : Int32) : Nat := if v = -6 then woN m (2 ^ k) else m ||| 2 ^ k
theorem bcm_lt {m k : Nat} {v : Int32} (hm : m < 2 ^ 61) (hk : k ≤ 60) : bcm m k v < 2 ^ 61 := by
  unfold bcm
  split
  · exact wo_lt _ hm
  · exact Nat.or_lt_two_pow hm (Nat.pow_lt_pow_right (by decide) (by omega))
theorem bcm_tb (m k : Nat) (v : Int32) (i : Nat) : (bcm m k v).testBit i = if i = k then !decide (v = -6) else m.testBit i := by
  unfold bcm
  by_cases h : v = -6
  · rw [if_pos h, wo_tb, Nat.testBit_two_pow]
    by_cases h2 : i = k
    · simp [h, h2]
    · have h3 : ¬ k = i := fun q => h2 q.symm
      simp [h2, h3]
  · rw [if_neg h, Nat.testBit_or, Nat.testBit_two_pow]
    by_cases h2 : i = k
    · simp [h, h2]
    · have h3 : ¬ k = i := fun q => h2 q.symm
      simp [h2, h3]
/-- what errors are told where dishes stand anew -/
def stE (L : Nat) (j : Nat) : Int32 := if L.testBit j = true then 0 else -6
def phv (sk er : Nat → Int32) (a b : Nat) : Int32 := if a < b then fm (sk (b - a) + er b - er a) 360 else fm (-(sk (a - b) + er a - er b)) 360
def fnd (sz nb tr : Int32) (fi : Nat) (x : Int32) : Int32 := if x = 0 then sz else if x = 1 then nb else if x = 2 then tr else mkA fi (x - 10)
theorem tab_out3 (x : Int32) (h0 : ¬ x = 0) (h1 : ¬ x = 1) (h2 : ¬ x = 2) : x.toInt < 0 ∨ 2 < x.toInt := by
  rw [fa_eq] at h0 h1 h2
  have e0 : (0 : Int32).toInt = 0 := by decide
  have e1 : (1 : Int32).toInt = 1 := by decide
  have e2 : (2 : Int32).toInt = 2 := by decide
  omega
theorem tab_out7 (x : Int32) (h0 : ¬ x = 0) (h1 : ¬ x = 1) (h2 : ¬ x = 2) (h3 : ¬ x = 3) (h4 : ¬ x = 4) (h5 : ¬ x = 5) (h6 : ¬ x = 6) : x.toInt < 0 ∨ 6 < x.toInt := by
  rw [fa_eq] at h0 h1 h2 h3 h4 h5 h6
  have e0 : (0 : Int32).toInt = 0 := by decide
  have e1 : (1 : Int32).toInt = 1 := by decide
  have e2 : (2 : Int32).toInt = 2 := by decide
  have e3 : (3 : Int32).toInt = 3 := by decide
  have e4 : (4 : Int32).toInt = 4 := by decide
  have e5 : (5 : Int32).toInt = 5 := by decide
  have e6 : (6 : Int32).toInt = 6 := by decide
  omega
theorem pc_32 {n : Nat} (hn : n < 2 ^ 32) : ∃ c0 c1 c2 c3 : Nat, c0 ≤ 8 ∧ c1 ≤ 8 ∧ c2 ≤ 8 ∧ c3 ≤ 8 ∧ pcN 32 n = c0 + c1 + c2 + c3 ∧
    (n / 2 &&& 1431655765) ≤ n ∧ (∀ a b, a = n - (n / 2 &&& 1431655765) → b = (a &&& 858993459) + (a / 4 &&& 858993459) → a < 2 ^ 32 ∧ b < 2 ^ 31 ∧ ((b + b / 16) &&& 252645135) = c0 + 256 * (c1 + 256 * (c2 + 256 * c3))) := by
  have hD := toD_lt 4 n
  have hL := toD_len 4 n
  have hE := ofD_toD 4 n (by exact Nat.lt_of_lt_of_le hn (by decide))
  generalize toD 4 n = ds at hD hL hE
  match ds, hL with
  | [d0, d1, d2, d3], _ =>
    have q := fun d (h : d ∈ [d0, d1, d2, d3]) => pk2lt d (hD d h)
    have q0 := q d0 (by simp); have q1 := q d1 (by simp); have q2 := q d2 (by simp); have q3 := q d3 (by simp)
    refine ⟨_, _, _, _, q0.2.2.2.2.2, q1.2.2.2.2.2, q2.2.2.2.2.2, q3.2.2.2.2.2, ?_, ?_, ?_⟩
    · have h := pc_dig _ hD
      rw [hE] at h
      rw [show (32 : Nat) = 8 * [d0, d1, d2, d3].length from rfl, h]
      simp only [List.map, sumL]
      omega
    · have h := (ps1 _ hD).2
      rw [hE] at h
      exact h
    · intro a b ha hb
      have h1 := (ps1 _ hD).1
      rw [hE] at h1
      have e5 : repD [d0, d1, d2, d3].length 85 = 1431655765 := rfl
      rw [e5, ← ha] at h1
      have h1b : ∀ d ∈ [d0, d1, d2, d3].map pt1, d < 256 := fun d hd => by
        obtain ⟨z, hz, rfl⟩ := List.mem_map.mp hd
        exact (q z hz).1
      have h2 := ps2 _ h1b
      rw [← h1] at h2
      have e6 : repD ([d0, d1, d2, d3].map pt1).length 51 = 858993459 := rfl
      rw [e6, ← hb] at h2
      have h2b : ∀ d ∈ ([d0, d1, d2, d3].map pt1).map pt2, d < 256 ∧ d % 16 ≤ 4 ∧ d / 16 ≤ 4 := fun d hd => by
        obtain ⟨z, hz, rfl⟩ := List.mem_map.mp hd
        obtain ⟨y, hy, rfl⟩ := List.mem_map.mp hz
        exact ⟨(q y hy).2.1, (q y hy).2.2.1, (q y hy).2.2.2.1⟩
      have h3 := ps3 _ h2b
      rw [← h2] at h3
      have e7 : repD (([d0, d1, d2, d3].map pt1).map pt2).length 15 = 252645135 := rfl
      rw [e7] at h3
      refine ⟨by omega, ?_, ?_⟩
      · have hb0 : b = ofD [pt2 (pt1 d0), pt2 (pt1 d1), pt2 (pt1 d2), pt2 (pt1 d3)] := h2
        simp only [ofD] at hb0
        have z0 := q0.2.1; have z1 := q1.2.1; have z2 := q2.2.1; have z3 := q3.2.2.1; have z4 := q3.2.2.2.1
        omega
      · rw [h3]
        simp only [List.map, ofD, Nat.mul_zero, Nat.add_zero]
theorem pc_fold32 {c0 c1 c2 c3 c d e : Nat} (h0 : c0 ≤ 8) (h1 : c1 ≤ 8) (h2 : c2 ≤ 8) (h3 : c3 ≤ 8) (hc : c = c0 + 256 * (c1 + 256 * (c2 + 256 * c3))) (hd : d = c + c / 256) (he : e = d + d / 65536) : c < 2 ^ 31 ∧ d < 2 ^ 31 ∧ e % 64 = c0 + c1 + c2 + c3 := by
  obtain ⟨Y1, e1⟩ : ∃ Y, Y = c1 + 256 * (c2 + 256 * c3) := ⟨_, rfl⟩
  rw [← e1] at hc
  rw [pcA hc h0] at hd
  have hd2 : d = (c0 + c1) + 256 * ((c1 + c2) + 256 * (c2 + c3 + 256 * c3)) := by omega
  rw [pcB hd2 (by omega) (by omega)] at he
  refine ⟨by omega, by omega, ?_⟩
  omega
theorem sta_step {mk q L m : Nat} (hall : ∀ j, mk.testBit j = if j < q then L.testBit j else m.testBit j) (j : Nat) : (bcm mk q (stE L q)).testBit j = if j < q + 1 then L.testBit j else m.testBit j := by
  rw [bcm_tb, hall]
  by_cases h : j = q
  · subst h
    rw [if_pos rfl, if_pos (by omega)]
    unfold stE
    cases L.testBit j <;> decide
  · rw [if_neg h]
    by_cases h2 : j < q
    · rw [if_pos h2, if_pos (by omega)]
    · rw [if_neg h2, if_neg (by omega)]
theorem sta_end {mk L m : Nat} (hm : m < 2 ^ 61) (hL : L < 2 ^ 61) (hmk : mk < 2 ^ 61) (hall : ∀ j, mk.testBit j = if j < 61 then L.testBit j else m.testBit j) : mk = L := by
  apply Nat.eq_of_testBit_eq
  intro j
  rcases Nat.lt_or_ge j 61 with h | h
  · rw [hall, if_pos h]
  · cases h1 : mk.testBit j with
    | true => have := tb_lt hmk h1; omega
    | false => cases h2 : L.testBit j with
      | true => have := tb_lt hL h2; omega
      | false => rfl
