/-! The reference: its small tests, its rows. -/
def inJ (a lo hi : Int64) : Bool := decide (lo ≤ a) && decide (a ≤ hi)
theorem lg_lt {x y : Int64} : lg_cmp x y < 0 ↔ x < y := by
  unfold lg_cmp
  by_cases h : y < x
  · rw [if_pos h]
    exact ⟨fun z => absurd z (by decide), fun z => by rw [fa_lt64] at h z; omega⟩
  · rw [if_neg h]
    by_cases h2 : x = y
    · rw [if_pos h2]
      exact ⟨fun z => absurd z (by decide), fun z => by rw [h2] at z; rw [fa_lt64] at z; omega⟩
    · rw [if_neg h2]
      refine ⟨fun _ => ?_, fun _ => by decide⟩
      rw [fa_eq64] at h2
      rw [fa_lt64] at h ⊢
      omega
theorem lg_gt {x y : Int64} : 0 < lg_cmp x y ↔ y < x := by
  unfold lg_cmp
  by_cases h : y < x
  · rw [if_pos h]
    exact ⟨fun _ => h, fun _ => by decide⟩
  · rw [if_neg h]
    by_cases h2 : x = y
    · rw [if_pos h2]
      exact ⟨fun z => absurd z (by decide), fun z => absurd z h⟩
    · rw [if_neg h2]
      exact ⟨fun z => absurd z (by decide), fun z => absurd z h⟩
theorem inJ_f1 {a lo hi : Int64} (h : lg_cmp a lo < 0) : inJ a lo hi = false := by
  rw [lg_lt, fa_lt64] at h
  have : ¬ lo ≤ a := by rw [fa_le64]; omega
  simp [inJ, this]
theorem inJ_f2 {a lo hi : Int64} (h : 0 < lg_cmp a hi) : inJ a lo hi = false := by
  rw [lg_gt, fa_lt64] at h
  have : ¬ a ≤ hi := by rw [fa_le64]; omega
  simp [inJ, this]
theorem inJ_t {a lo hi : Int64} (h : ¬ lg_cmp a lo < 0) (h2 : ¬ 0 < lg_cmp a hi) : inJ a lo hi = true := by
  rw [lg_lt, fa_lt64] at h
  rw [lg_gt, fa_lt64] at h2
  have h3 : lo ≤ a := by rw [fa_le64]; omega
  have h4 : a ≤ hi := by rw [fa_le64]; omega
  simp [inJ, h3, h4]
theorem wide_lo {c : Int32} {d : Int64} (e : c.toInt64 = d) (x : Int32) : decide (d ≤ x.toInt64) = decide (c ≤ x) := by subst e; exact decide_eq_decide.mpr (fa_wide_le _ _)
theorem wide_hi {c : Int32} {d : Int64} (e : c.toInt64 = d) (x : Int32) : decide (x.toInt64 ≤ d) = decide (x ≤ c) := by subst e; exact decide_eq_decide.mpr (fa_wide_le _ _)
theorem inJ_w {lo hi : Int32} {c d : Int64} (e1 : lo.toInt64 = c) (e2 : hi.toInt64 = d) (x : Int32) : inJ x.toInt64 c d = (decide (lo ≤ x) && decide (x ≤ hi)) := by
  unfold inJ
  rw [wide_lo e1, wide_hi e2]
theorem inJ_S (x : Int32) : inJ x.toInt64 0 60 = inS x := inJ_w (by decide) (by decide) x
theorem inJ_L (x : Int32) : inJ x.toInt64 1 60 = inL x := inJ_w (by decide) (by decide) x
theorem inJ_P (x : Int32) : inJ x.toInt64 0 359 = inP x := by
  rw [inJ_w (lo := 0) (hi := 359) (by decide) (by decide) x]
  unfold inP
  congr 1
  rw [decide_eq_decide, fa_le, fa_lt, show (359 : Int32).toInt = 359 by decide, show (360 : Int32).toInt = 360 by decide]
  omega
theorem inJ_G (x : Int32) : inJ x.toInt64 0 1 = inG x := by
  rw [inJ_w (lo := 0) (hi := 1) (by decide) (by decide) x]
  unfold inG
  rw [← Bool.decide_and, ← Bool.decide_or, decide_eq_decide, fa_le, fa_le, fa_eq, fa_eq, show (0 : Int32).toInt = 0 by decide, show (1 : Int32).toInt = 1 by decide]
  omega
theorem inJ_2 (x : Int32) : inJ x.toInt64 0 2 = (decide (0 ≤ x) && decide (x ≤ 2)) := inJ_w (by decide) (by decide) x
theorem inJ_r (x : Int32) : inJ x.toInt64 2 7 = inR 0 x := by
  rw [inJ_w (lo := 2) (hi := 7) (by decide) (by decide) x]
  rfl
theorem inJ_c (x : Int32) : inJ x.toInt64 1 20 = inR 1 x := by
  rw [inJ_w (lo := 1) (hi := 20) (by decide) (by decide) x]
  unfold inR
  rw [if_neg (by decide)]
  simp
theorem inJ_e (x : Int32) : inJ x.toInt64 100 160 = inS (x - 100) := by
  rw [inJ_w (lo := 100) (hi := 160) (by decide) (by decide) x]
  unfold inS
  rw [← Bool.decide_and, ← Bool.decide_and, decide_eq_decide, fa_le, fa_le, fa_le, fa_le, Int32.toInt_sub, show (0 : Int32).toInt = 0 by decide, show (100 : Int32).toInt = 100 by decide, show (160 : Int32).toInt = 160 by decide, show (60 : Int32).toInt = 60 by decide]
  have h1 := Int32.le_toInt x
  have h2 := Int32.toInt_lt x
  rcases Int.lt_or_le (x.toInt - 100) (-(2 ^ 31)) with h | h
  · rw [← Int.add_bmod_right, Int.bmod_eq_of_le (by omega) (by omega)]
    omega
  · rw [Int.bmod_eq_of_le (by omega) (by omega)]
    omega
theorem inJ_k (x : Int32) : inJ x.toInt64 201 260 = inL (x - 200) := by
  rw [inJ_w (lo := 201) (hi := 260) (by decide) (by decide) x]
  unfold inL
  rw [← Bool.decide_and, ← Bool.decide_and, decide_eq_decide, fa_le, fa_le, fa_le, fa_le, Int32.toInt_sub, show (1 : Int32).toInt = 1 by decide, show (200 : Int32).toInt = 200 by decide, show (201 : Int32).toInt = 201 by decide, show (260 : Int32).toInt = 260 by decide, show (60 : Int32).toInt = 60 by decide]
  have h1 := Int32.le_toInt x
  have h2 := Int32.toInt_lt x
  rcases Int.lt_or_le (x.toInt - 200) (-(2 ^ 31)) with h | h
  · rw [← Int.add_bmod_right, Int.bmod_eq_of_le (by omega) (by omega)]
    omega
  · rw [Int.bmod_eq_of_le (by omega) (by omega)]
    omega
theorem rem360 (x : Int32) : (x - x / 360 * 360).toInt = x.toInt.tmod 360 := by
  have h1 := Int32.le_toInt x
  have h2 := Int32.toInt_lt x
  have e0 : (360 : Int32).toInt = 360 := by decide
  have e1 : (x / 360).toInt = x.toInt.tdiv 360 ∧ -(2 ^ 31) ≤ x.toInt.tdiv 360 ∧ x.toInt.tdiv 360 < 2 ^ 31 ∧ x.toInt.tmod 360 = x.toInt - x.toInt.tdiv 360 * 360 ∧ -360 < x.toInt.tmod 360 ∧ x.toInt.tmod 360 < 360 ∧ (x.toInt < 0 → x.toInt.tmod 360 ≤ 0) ∧ (0 ≤ x.toInt → 0 ≤ x.toInt.tmod 360) := by
    have e3 : x.toInt.tmod 360 = x.toInt - x.toInt.tdiv 360 * 360 := by rw [Int.tmod_def, Int.mul_comm]
    rw [Int32.toInt_div, e0, e3]
    rcases Int.lt_or_le x.toInt 0 with h | h
    · obtain ⟨y, hy⟩ : ∃ y, y = -x.toInt := ⟨_, rfl⟩
      have e2 : x.toInt = -y := by omega
      rw [e2] at h h1 h2 ⊢
      rw [Int.neg_tdiv, Int.tdiv_eq_ediv_of_nonneg (by omega)]
      rw [Int.bmod_eq_of_le (by omega) (by omega)]
      omega
    · rw [Int.tdiv_eq_ediv_of_nonneg h]
      rw [Int.bmod_eq_of_le (by omega) (by omega)]
      omega
  obtain ⟨e1, e2, e3, e4, e5, e6, e7, e8⟩ := e1
  rw [Int32.toInt_sub, Int32.toInt_mul, e1, e0, e4]
  rw [e4] at e5 e6 e7 e8
  have e9 : (x.toInt.tdiv 360 * 360).bmod (2 ^ 32) = x.toInt.tdiv 360 * 360 := by
    rcases Int.lt_or_le x.toInt 0 with h | h
    · have := e7 h
      exact Int.bmod_eq_of_le (by omega) (by omega)
    · have := e8 h
      exact Int.bmod_eq_of_le (by omega) (by omega)
  rw [e9, Int.bmod_eq_of_le (by omega) (by omega)]
theorem xor360 (x : Int32) : (x ^^^ 360) < 0 ↔ x < 0 := by
  have e : ∀ z : Int32, z < 0 ↔ z.toBitVec.msb = true := fun z => by
    rw [fa_lt, show (0 : Int32).toInt = 0 by decide, BitVec.msb_eq_toInt, decide_eq_true_eq]
    rfl
  rw [e, e, Int32.toBitVec_xor, BitVec.msb_xor, show (360 : Int32).toBitVec.msb = false by decide, Bool.xor_false]
theorem over_eq (x : Int32) : (x - x / 360 * 360 + 360) - (x - x / 360 * 360 + 360) / 360 * 360 = fm x 360 := by
  rw [fa_eq, rem360, Int32.toInt_add, rem360, show (360 : Int32).toInt = 360 by decide]
  have h1 := Int32.le_toInt x
  have h2 := Int32.toInt_lt x
  have e6 : -360 < x.toInt.tmod 360 ∧ x.toInt.tmod 360 < 360 ∧ (x.toInt < 0 → x.toInt.tmod 360 ≤ 0) ∧ (0 ≤ x.toInt → 0 ≤ x.toInt.tmod 360) := by
    rw [Int.tmod_def, Int.mul_comm]
    rcases Int.lt_or_le x.toInt 0 with h | h
    · obtain ⟨y, hy⟩ : ∃ y, y = -x.toInt := ⟨_, rfl⟩
      have e2 : x.toInt = -y := by omega
      rw [e2] at h h1 h2 ⊢
      rw [Int.neg_tdiv, Int.tdiv_eq_ediv_of_nonneg (by omega)]
      omega
    · rw [Int.tdiv_eq_ediv_of_nonneg h]
      omega
  obtain ⟨q1, q2, q3, q4⟩ := e6
  have e9 : (x.toInt.tmod 360 + 360).bmod (2 ^ 32) = x.toInt.tmod 360 + 360 := Int.bmod_eq_of_le (by omega) (by omega)
  rw [e9, Int.tmod_eq_emod_of_nonneg (by omega)]
  have hr : (x - x / 360 * 360).toInt = x.toInt.tmod 360 := rem360 x
  have hz : x - x / 360 * 360 = 0 ↔ x.toInt.tmod 360 = 0 := by rw [fa_eq, hr, show (0 : Int32).toInt = 0 by decide]
  unfold fm
  by_cases hc : (x ^^^ 360) < 0 ∧ ¬ (x - x / 360 * 360) = 0
  · rw [if_pos hc, Int32.toInt_add, hr, show (360 : Int32).toInt = 360 by decide, e9]
    have hx : x < 0 := (xor360 x).mp hc.1
    rw [fa_lt, show (0 : Int32).toInt = 0 by decide] at hx
    have h3 := q3 hx
    have h4 : ¬ x.toInt.tmod 360 = 0 := fun z => hc.2 (hz.mpr z)
    omega
  · rw [if_neg hc, hr]
    by_cases hx : x < 0
    · have : x.toInt.tmod 360 = 0 := by
        rcases Classical.em (x.toInt.tmod 360 = 0) with z | z
        · exact z
        · exact absurd ⟨(xor360 x).mpr hx, fun y => z (hz.mp y)⟩ hc
      omega
    · rw [fa_lt, show (0 : Int32).toInt = 0 by decide] at hx
      have := q4 (by omega)
      omega
/-- what the row of the stations says, if the line is m -/
def tB (m : Nat) : Nat → Int32 := fun j => bi (m.testBit j)
theorem tB_1 {m j : Nat} (h : tB m j = 1) : m.testBit j = true := bi_t (fun z => absurd (h.symm.trans z) (by decide))
theorem tB_n {m j : Nat} (h : ¬ tB m j = 1) : m.testBit j = false := by
  cases hb : m.testBit j with
  | false => rfl
  | true => exact absurd (by unfold tB; rw [hb]; rfl) h
theorem tB_up (m k : Nat) (v b : Int32) (hb : b = if v = -6 then 0 else 1) : upd (tB m) k b = tB (bcm m k v) := by
  funext j
  unfold upd tB
  rw [bcm_tb]
  by_cases h : j = k
  · rw [if_pos h, if_pos h, hb]
    by_cases h2 : v = -6
    · simp [h2, bi]
    · simp [h2, bi]
  · rw [if_neg h, if_neg h]
theorem tB_add (m k a : Nat) (h : a = fb_ct (fun k => m.testBit k) k) : nI a + tB m k = nI (fb_ct (fun k => m.testBit k) (k + 1)) := by
  rw [fb_ct_succ, ← h]
  unfold tB
  cases m.testBit k
  · show nI a + nI 0 = nI (a + 0)
    exact nI_add _ _
  · exact nI_1 a
theorem pcN_61 {m : Nat} (hm : m < 2 ^ 61) : fb_ct (fun k => m.testBit k) 61 = pcN 64 m := by
  have h : fb_ct (fun k => m.testBit k) (61 + 3) = fb_ct (fun k => m.testBit k) 61 := ct_above (p := fun k => m.testBit k) (k := 61) 3 (fun i h => by
    show m.testBit i = false
    cases hb : m.testBit i with
    | false => rfl
    | true => have := tb_lt hm hb; omega)
  exact h.symm
/-- the log's rows when the eldest is pushed out -/
def shF (f : Nat → Int32) (k : Nat) : Nat → Int32 := fun i => if i < k then f (i + 1) else f i
theorem shF_0 (f : Nat → Int32) : shF f 0 = f := rfl
theorem shF_up (f : Nat → Int32) (k : Nat) : upd (shF f k) k (shF f k (k + 1)) = shF f (k + 1) := by
  funext j
  unfold upd shF
  by_cases h : j = k
  · rw [if_pos h, if_neg (by omega), if_pos (by omega), h]
  · rw [if_neg h]
    by_cases h2 : j < k
    · rw [if_pos h2, if_pos (by omega)]
    · rw [if_neg h2, if_neg (by omega)]
def lgA (cn : Nat) (f : Nat → Int32) (v : Int32) : Nat → Int32 := if cn = 16 then upd (shF f 15) 15 v else upd f cn v
theorem lgA_1 {f : Nat → Int32} (v : Int32) : upd (shF f 15) 15 v = lgA 16 f v := by unfold lgA; rw [if_pos rfl]
theorem lgA_2 {cn : Nat} {f : Nat → Int32} (v : Int32) (h : cn ≠ 16) : upd f cn v = lgA cn f v := by unfold lgA; rw [if_neg h]
theorem wo_0 (m : Nat) : woN m 0 = m := by
  unfold woN
  simp
theorem bitO_6 : bitO (-6) = 0 := by decide
theorem wo_6 (m : Nat) : woN m (bitO (-6)) = m := by rw [bitO_6, wo_0]
theorem lgc_2 {cn : Nat} (h : cn < 16) : lgc cn = cn + 1 := by unfold lgc; rw [if_pos h]
