/-! A line of marks as a number m below 2^61: what is asked of it. -/
theorem inS_of {x : Int32} (h : inS x = true) : ∃ k, k ≤ 60 ∧ x = nI k := by
  simp only [inS, Bool.and_eq_true, decide_eq_true_eq] at h
  obtain ⟨j, h1, h2⟩ := nI_of2 (M := 60) (n := 60) (by decide) (Int32.not_lt.mpr h.1) h.2
  exact ⟨j, h1, h2⟩
theorem i_lt {a b : Nat} (ha : a < 2 ^ 31) (hb : b < 2 ^ 31) (h : nI a < nI b) : a < b := (nI_ltI ha hb).mp h
theorem i_nlt {a b : Nat} (ha : a < 2 ^ 31) (hb : b < 2 ^ 31) (h : ¬ nI a < nI b) : b ≤ a := Nat.not_lt.mp (fun q => h ((nI_ltI ha hb).mpr q))
theorem i_le {a b : Nat} (ha : a < 2 ^ 31) (hb : b < 2 ^ 31) (h : nI a ≤ nI b) : a ≤ b := (nI_leI ha hb).mp h
theorem i_nle {a b : Nat} (ha : a < 2 ^ 31) (hb : b < 2 ^ 31) (h : ¬ nI a ≤ nI b) : b < a := Nat.not_le.mp (fun q => h ((nI_leI ha hb).mpr q))
theorem i_eq {a b : Nat} (ha : a < 2 ^ 31) (hb : b < 2 ^ 31) (h : nI a = nI b) : a = b := (nI_eq ha hb).mp h
theorem i_ne {a b : Nat} (h : ¬ nI a = nI b) : a ≠ b := fun q => h (by rw [q])
theorem inS_nI {k : Nat} (h : k < 2 ^ 31) : inS (nI k) = decide (k ≤ 60) := by
  have h1 : (0 : Int32) ≤ nI k := nI_pos' h
  have h2 : nI k ≤ 60 ↔ k ≤ 60 := nI_leI (b := 60) h (by decide)
  simp [inS, h1, h2]
theorem inL_nI {k : Nat} (h : k < 2 ^ 31) : inL (nI k) = (decide (1 ≤ k) && decide (k ≤ 60)) := by
  have h1 : (1 : Int32) ≤ nI k ↔ 1 ≤ k := nI_leI (a := 1) (by decide) h
  have h2 : nI k ≤ 60 ↔ k ≤ 60 := nI_leI (b := 60) h (by decide)
  simp [inL, h1, h2]
theorem inL_of {x : Int32} (h : inL x = true) : ∃ k, 1 ≤ k ∧ k ≤ 60 ∧ x = nI k := by
  simp only [inL, Bool.and_eq_true, decide_eq_true_eq] at h
  have h0 : ¬ x < 0 := by have := h.1; grind
  obtain ⟨j, h1, h2⟩ := nI_of2 (M := 60) (n := 60) (by decide) h0 h.2
  refine ⟨j, ?_, h1, h2⟩
  rw [h2] at h
  exact (nI_leI (a := 1) (by decide) (by omega)).mp h.1
/-- the bit of a station, 0 of what is none -/
def bitO (x : Int32) : Nat := if inS x = true then 2 ^ x.toNatClampNeg else 0
def stn (m : Nat) (x : Int32) : Bool := inS x && m.testBit x.toNatClampNeg
theorem bitO_nI {k : Nat} (h : k ≤ 60) : bitO (nI k) = 2 ^ k := by
  unfold bitO
  rw [inS_nI (by omega), nI_clamp (by omega)]
  simp [h]
theorem stn_nI {m k : Nat} (h : k ≤ 60) : stn m (nI k) = m.testBit k := by
  unfold stn
  rw [inS_nI (by omega), nI_clamp (by omega)]
  simp [h]
theorem bitO_lt (x : Int32) : bitO x < 2 ^ 61 := by
  unfold bitO
  split
  next h =>
    obtain ⟨k, hk, rfl⟩ := inS_of h
    rw [nI_clamp (by omega)]
    exact Nat.pow_lt_pow_right (by decide) (by omega)
  next h => decide
theorem lN_inj64 {a b : Nat} (ha : a < 2 ^ 64) (hb : b < 2 ^ 64) (h : lN a = lN b) : a = b := by
  have e := congrArg (fun z : Int64 => z.toBitVec.toNat) h
  simpa [wb_tn ha, wb_tn hb] using e
theorem lg0 {x y : Int64} : lg_cmp x y = 0 ↔ x = y := by
  unfold lg_cmp
  by_cases h : y < x
  · simp only [h, if_true]
    exact ⟨fun z => absurd z (by decide), fun z => by subst z; exact absurd h Int64.lt_irrefl⟩
  · by_cases h2 : x = y
    · simp [h2, Int64.lt_irrefl]
    · simp only [h, h2, if_false]
      exact ⟨fun z => absurd z (by decide), fun z => z.elim⟩
theorem and_pw (m k : Nat) : m &&& 2 ^ k = 0 ↔ m.testBit k = false := fb_bit_nat m k
theorem has_f {m : Nat} {x : Int32} (hm : m < 2 ^ 61) (h : lg_cmp (lN (m &&& bitO x)) 0 = 0) : stn m x = false := by
  have h1 : m &&& bitO x = 0 := lN_inj64 (Nat.lt_of_le_of_lt Nat.and_le_left (Nat.lt_trans hm (by decide))) (by decide) (lg0.mp h)
  unfold stn
  unfold bitO at h1
  by_cases hi : inS x = true
  · rw [if_pos hi] at h1
    simp [(and_pw _ _).mp h1]
  · simp [hi]
theorem has_t {m : Nat} {x : Int32} (h : ¬ lg_cmp (lN (m &&& bitO x)) 0 = 0) : stn m x = true := by
  cases hs : stn m x with
  | true => rfl
  | false =>
    refine absurd (lg0.mpr ?_) h
    have h1 : m &&& bitO x = 0 := by
      unfold bitO
      unfold stn at hs
      by_cases hi : inS x = true
      · rw [if_pos hi]
        rw [hi] at hs
        exact (and_pw _ _).mpr (by simpa using hs)
      · rw [if_neg hi]; simp
    rw [h1]
    rfl
theorem bit_shl {x : Int32} (h : inS x = true) : (1 : Int64) <<< (x.toInt64 &&& 63) = lN (bitO x) := by
  obtain ⟨k, hk, rfl⟩ := inS_of h
  have e := wb_shl 1 (k := k) (by omega)
  rw [bitO_nI hk]
  rw [Nat.one_mul] at e
  exact e
/-- the i-th mark, rising; -6 -/
def mkF (m : Nat) (i : Int32) : Nat → Nat → Nat → Int32
  | 0, _, _ => -6
  | n + 1, k, a => if m.testBit k = true then (if nI a = i then nI k else mkF m i n (k + 1) (a + 1)) else mkF m i n (k + 1) a
def mkA (m : Nat) (i : Int32) : Int32 := mkF m i 61 0 0
/-- how often a length is there -/
def ofN (m d : Nat) : Nat := pcN 64 (m &&& (m / 2 ^ d))
def ofX (m : Nat) (x : Int32) : Nat := if inL x = true then ofN m x.toNatClampNeg else 0
theorem ofX_nI {m k : Nat} (h1 : 1 ≤ k) (h : k ≤ 60) : ofX m (nI k) = ofN m k := by
  unfold ofX
  rw [inL_nI (by omega), nI_clamp (by omega)]
  simp [h1, h]
theorem pcN_le (n m : Nat) : pcN n m ≤ n := fb_ct_le _ n
theorem ofN_le (m d : Nat) : ofN m d ≤ 64 := pcN_le 64 _
theorem often_sh {m k : Nat} (hm : m < 2 ^ 61) (hk : k ≤ 60) : lN m &&& ((lN m).toUInt64 >>> ((nI k).toInt64.toUInt64 &&& Int64.toUInt64 63)).toInt64 = lN (m &&& (m / 2 ^ k)) := by
  rw [wb_shr (Nat.lt_trans hm (by decide)) (by omega)]
  exact fb_andL _ _
/-- how far no length lacks -/
def reF (m : Nat) : Nat → Nat → Nat
  | 0, _ => 60
  | n + 1, d => if ofN m d = 0 then d - 1 else reF m n (d + 1)
def reN (m : Nat) : Nat := reF m 60 1
theorem reF_le (m : Nat) : ∀ n d, d + n ≤ 61 → reF m n d ≤ 60
  | 0, _, _ => Nat.le_refl _
  | n + 1, d, h => by
    unfold reF
    split
    · omega
    · exact reF_le m n (d + 1) (by omega)
theorem reN_le (m : Nat) : reN m ≤ 60 := reF_le m 60 1 (by decide)
/-- a line without the marks of another -/
def woN (m b : Nat) : Nat := m ^^^ (m &&& b)
theorem wo_tb (m b i : Nat) : (woN m b).testBit i = (m.testBit i && !b.testBit i) := by
  unfold woN
  rw [Nat.testBit_xor, Nat.testBit_and]
  cases m.testBit i <;> cases b.testBit i <;> rfl
theorem wo_lt {m n : Nat} (b : Nat) (h : m < 2 ^ n) : woN m b < 2 ^ n := Nat.xor_lt_two_pow h (Nat.lt_of_le_of_lt Nat.and_le_left h)
theorem lN_wo (m b : Nat) : lN m &&& (lN b ^^^ (-1)) = lN (woN m b) := by
  apply wb_inj
  rw [Int64.toBitVec_and, Int64.toBitVec_xor, wb_tb, wb_tb, wb_tb]
  have e : (-1 : Int64).toBitVec = BitVec.allOnes 64 := by decide
  rw [e]
  apply BitVec.eq_of_getLsbD_eq
  intro i hi
  rw [BitVec.getLsbD_and, BitVec.getLsbD_xor, BitVec.getLsbD_allOnes, BitVec.getLsbD_ofNat, BitVec.getLsbD_ofNat, BitVec.getLsbD_ofNat, wo_tb]
  simp [hi]
/-- the span: the greatest length that is there -/
def spF (m : Nat) : Nat → Nat
  | 0 => 0
  | n + 1 => if ofN m (n + 1) = 0 then spF m n else n + 1
def spN (m : Nat) : Nat := spF m 60
theorem spF_le (m : Nat) : ∀ n, spF m n ≤ n
  | 0 => Nat.le_refl _
  | n + 1 => by
    unfold spF
    split
    · exact Nat.le_succ_of_le (spF_le m n)
    · exact Nat.le_refl _
theorem spN_le (m : Nat) : spN m ≤ 60 := spF_le m 60
def lkN (m : Nat) : Nat := fb_ct (fun k => decide (ofN m (k + 1) = 0)) (spN m)
def rpN (m : Nat) : Nat := fb_sm (fun k => ofN m (k + 1) - 1) 60
/-- the most, and the least length of it, of the lengths up to n -/
def moF (m : Nat) : Nat → Nat × Int32
  | 0 => (0, -6)
  | n + 1 => if (moF m n).1 < ofN m (n + 1) then (ofN m (n + 1), nI (n + 1)) else moF m n
def moN (m : Nat) : Int32 := (moF m 60).2
theorem moF_le (m : Nat) : ∀ n, (moF m n).1 ≤ 64
  | 0 => Nat.zero_le _
  | n + 1 => by
    unfold moF
    split
    · exact ofN_le _ _
    · exact moF_le m n
def llN (m : Nat) : Int32 := if reN m < spN m then nI (reN m + 1) else -6
