/-! How often a length is there, without a station; spans, reaches, the most often: as the reference finds them. -/
theorem nI_z (a : Nat) : nI a + 0 = nI a := nI_add a 0
theorem nI_dec {q : Nat} (h : 1 ≤ q) : nI q + Int32.ofInt (-1) = nI (q - 1) := by
  obtain ⟨k, rfl⟩ : ∃ k, q = k + 1 := ⟨q - 1, by omega⟩
  rw [show Int32.ofInt (-1) = -1 by decide, ← Int32.sub_eq_add_neg, nI_pred]
  rfl
theorem bi_mul (a b : Bool) : bi a * bi b = bi (a && b) := by cases a <;> cases b <;> decide
theorem tB_mul (m q d : Nat) : tB m q * tB m (q + d) = bi (m.testBit q && m.testBit (q + d)) := bi_mul _ _
theorem ct_bi {p : Nat → Bool} {a q : Nat} {b : Bool} (h : a = fb_ct p q) (hb : p q = b) : nI a + bi b = nI (fb_ct p (q + 1)) := by
  rw [fb_ct_succ, ← h, hb]
  cases b
  · exact nI_add a 0
  · exact nI_1 a
theorem ct_b0 {p : Nat → Bool} {a q : Nat} (h : a = fb_ct p q) (hb : p q = false) : nI a + 0 = nI (fb_ct p (q + 1)) := ct_bi (b := false) h hb
theorem ct_b1 {p : Nat → Bool} {a q : Nat} (h : a = fb_ct p q) (hb : p q = true) : nI a + 1 = nI (fb_ct p (q + 1)) := ct_bi (b := true) h hb
theorem woB_at {m q : Nat} {x : Int32} (hq : q ≤ 60) (h : nI q = x) : (woN m (bitO x)).testBit q = false := by
  subst h
  rw [wo_tb, bitO_nI hq]
  simp
theorem woB_ne {m q : Nat} {x : Int32} (h : ¬ nI q = x) : (woN m (bitO x)).testBit q = m.testBit q := by
  rw [wo_tb]
  unfold bitO
  by_cases hi : inS x = true
  · obtain ⟨k, hk, rfl⟩ := inS_of hi
    rw [if_pos hi, cl_k hk, Nat.testBit_two_pow]
    have : ¬ k = q := fun z => h (by rw [z])
    simp [this]
  · rw [if_neg hi]
    simp
def ofP (m d : Nat) : Nat → Bool := fun k => m.testBit k && m.testBit (k + d)
theorem of_end {m q d : Nat} (hm : m < 2 ^ 61) (hd : 1 ≤ d) (h : q + d = 61) : fb_ct (ofP m d) q = ofN m d := by
  have h1 : fb_ct (ofP m d) (q + (64 - q)) = fb_ct (ofP m d) q := ct_above (64 - q) (fun i hi => by
    unfold ofP
    cases hb : m.testBit (i + d) with
    | false => simp
    | true => have := tb_lt hm hb; omega)
  rw [← h1, show q + (64 - q) = 64 by omega]
  unfold ofN pcN
  refine fb_ct_cong (fun k _ => ?_)
  show ofP m d k = _
  rw [Nat.testBit_and, Nat.testBit_div_two_pow]
  rfl
theorem spF_s (m n : Nat) : spF m (n + 1) = if ofN m (n + 1) = 0 then spF m n else n + 1 := rfl
theorem spF_z {m q : Nat} (h : 1 ≤ q) (hz : ofN m q = 0) : spF m (q + 1 - 1) = spF m (q - 1) := by
  obtain ⟨k, rfl⟩ : ∃ k, q = k + 1 := ⟨q - 1, by omega⟩
  show spF m (k + 1) = spF m k
  rw [spF_s, if_pos hz]
theorem spF_n {m q : Nat} (h : 1 ≤ q) (hz : ofN m q ≠ 0) : spF m (q + 1 - 1) = q := by
  obtain ⟨k, rfl⟩ : ∃ k, q = k + 1 := ⟨q - 1, by omega⟩
  show spF m (k + 1) = k + 1
  rw [spF_s, if_neg hz]
theorem reF_s (m n d : Nat) : reF m (n + 1) d = if ofN m d = 0 then d - 1 else reF m n (d + 1) := rfl
theorem reF_lack (m : Nat) : ∀ n d, 1 ≤ d → d + n = 61 → reF m n d < 60 → ofN m (reF m n d + 1) = 0
  | 0, d, _, _, h => absurd h (by show ¬ 60 < 60; omega)
  | n + 1, d, h1, h2, h => by
    rw [reF_s] at h ⊢
    by_cases hz : ofN m d = 0
    · rw [if_pos hz, show d - 1 + 1 = d by omega]
      exact hz
    · rw [if_neg hz] at h ⊢
      exact reF_lack m n (d + 1) (by omega) (by omega) h
theorem spF_there (m : Nat) : ∀ n, spF m n = 0 ∨ ofN m (spF m n) ≠ 0
  | 0 => Or.inl rfl
  | n + 1 => by
    rw [spF_s]
    by_cases hz : ofN m (n + 1) = 0
    · rw [if_pos hz]
      exact spF_there m n
    · rw [if_neg hz]
      exact Or.inr hz
theorem ll_ne {m : Nat} (h : reN m < spN m) : reN m + 1 < spN m := by
  have h1 := spN_le m
  have h2 : ofN m (reN m + 1) = 0 := reF_lack m 60 1 (by decide) (by decide) (by show reN m < 60; omega)
  have h3 : spN m = 0 ∨ ofN m (spN m) ≠ 0 := spF_there m 60
  rcases Nat.lt_or_ge (reN m + 1) (spN m) with q | q
  · exact q
  · have e : reN m + 1 = spN m := by omega
    rw [← e] at h3
    rcases h3 with z | z
    · omega
    · exact absurd h2 z
def lkP (m : Nat) : Nat → Bool := fun k => decide (ofN m (k + 1) = 0)
theorem lkN_eq (m : Nat) : fb_ct (lkP m) (spN m) = lkN m := rfl
theorem lk_step {m q : Nat} (h : 1 ≤ q) : fb_ct (lkP m) q = fb_ct (lkP m) (q - 1) + (if ofN m q = 0 then 1 else 0) := by
  obtain ⟨k, rfl⟩ : ∃ k, q = k + 1 := ⟨q - 1, by omega⟩
  show fb_ct (lkP m) (k + 1) = fb_ct (lkP m) k + _
  rw [fb_ct_succ]
  unfold lkP
  by_cases hz : ofN m (k + 1) = 0 <;> simp [hz]
def rpP (m : Nat) : Nat → Nat := fun k => ofN m (k + 1) - 1
theorem rp_step {m q : Nat} (h : 1 ≤ q) : fb_sm (rpP m) (q + 1 - 1) = fb_sm (rpP m) (q - 1) + (ofN m q - 1) := by
  obtain ⟨k, rfl⟩ : ∃ k, q = k + 1 := ⟨q - 1, by omega⟩
  rfl
/-- the best of some lengths, the least of them -/
def moB (m lo hi : Nat) (w : Int32) : Prop := (w = -6 ∧ ∀ j, lo < j → j ≤ hi → ofN m j = 0) ∨ ∃ k, w = nI k ∧ lo < k ∧ k ≤ hi ∧ 0 < ofN m k ∧ (∀ j, lo < j → j ≤ hi → ofN m j ≤ ofN m k) ∧ (∀ j, lo < j → j < k → ofN m j < ofN m k)
theorem moB_0 (m hi : Nat) : moB m hi hi (-6) := Or.inl ⟨rfl, fun j h1 h2 => by omega⟩
theorem moB_k {m lo hi : Nat} {w : Int32} (hhi : hi ≤ 60) (h : moB m lo hi w) (hw : ¬ w < 0) : ∃ k, w = nI k ∧ lo < k ∧ k ≤ hi ∧ 0 < ofN m k ∧ (∀ j, lo < j → j ≤ hi → ofN m j ≤ ofN m k) ∧ (∀ j, lo < j → j < k → ofN m j < ofN m k) := by
  rcases h with ⟨rfl, -⟩ | h
  · exact absurd (by decide) hw
  · exact h
theorem moB_l {m lo hi : Nat} {w : Int32} (hhi : hi ≤ 60) (h : moB m lo hi w) (hw : w < 0) : ∀ j, lo < j → j ≤ hi → ofN m j = 0 := by
  rcases h with ⟨-, h⟩ | ⟨k, rfl, h1, h2, -⟩
  · exact h
  · exact absurd hw (Int32.not_lt.mpr (nI_pos' (by omega)))
theorem moB_z {m q : Nat} {w : Int32} (h1 : 1 ≤ q) (hz : ofN m q = 0) (h : moB m q 60 w) : moB m (q - 1) 60 w := by
  rcases h with ⟨rfl, h⟩ | ⟨k, rfl, a1, a2, a3, a4, a5⟩
  · exact Or.inl ⟨rfl, fun j b1 b2 => by
      rcases Nat.lt_or_ge q j with c | c
      · exact h j c b2
      · rw [show j = q by omega]; exact hz⟩
  · exact Or.inr ⟨k, rfl, by omega, a2, a3, fun j b1 b2 => by
      rcases Nat.lt_or_ge q j with c | c
      · exact a4 j c b2
      · rw [show j = q by omega, hz]; omega, fun j b1 b2 => by
      rcases Nat.lt_or_ge q j with c | c
      · exact a5 j c b2
      · rw [show j = q by omega, hz]; exact a3⟩
theorem moB_n {m q : Nat} (h1 : 1 ≤ q) (h2 : q ≤ 60) (hz : 0 < ofN m q) (h : ∀ j, q < j → j ≤ 60 → ofN m j ≤ ofN m q) : moB m (q - 1) 60 (nI q) :=
  Or.inr ⟨q, rfl, by omega, h2, hz, fun j b1 b2 => by
    rcases Nat.lt_or_ge q j with c | c
    · exact h j c b2
    · rw [show j = q by omega]; exact Nat.le_refl _, fun j b1 b2 => by omega⟩
theorem moB_s {m q k : Nat} (h1 : 1 ≤ q) (hlt : ofN m q < ofN m k) (a1 : q < k) (a2 : k ≤ 60) (a4 : ∀ j, q < j → j ≤ 60 → ofN m j ≤ ofN m k) (a5 : ∀ j, q < j → j < k → ofN m j < ofN m k) : moB m (q - 1) 60 (nI k) :=
  Or.inr ⟨k, rfl, by omega, a2, by omega, fun j b1 b2 => by
    rcases Nat.lt_or_ge q j with c | c
    · exact a4 j c b2
    · rw [show j = q by omega]; omega, fun j b1 b2 => by
    rcases Nat.lt_or_ge q j with c | c
    · exact a5 j c b2
    · rw [show j = q by omega]; exact hlt⟩
def moI (m n : Nat) (a : Nat) (w : Int32) : Prop := (w = -6 ∧ a = 0 ∧ ∀ j, 0 < j → j ≤ n → ofN m j = 0) ∨ ∃ k, w = nI k ∧ 0 < k ∧ k ≤ n ∧ a = ofN m k ∧ 0 < a ∧ (∀ j, 0 < j → j ≤ n → ofN m j ≤ a) ∧ (∀ j, 0 < j → j < k → ofN m j < a)
theorem moF_char (m : Nat) : ∀ n, moI m n (moF m n).1 (moF m n).2
  | 0 => Or.inl ⟨rfl, rfl, fun j h1 h2 => by omega⟩
  | n + 1 => by
    have ih := moF_char m n
    have e : moF m (n + 1) = if (moF m n).1 < ofN m (n + 1) then (ofN m (n + 1), nI (n + 1)) else moF m n := rfl
    rw [e]
    generalize moF m n = z at ih ⊢
    obtain ⟨a, w⟩ := z
    dsimp only at ih ⊢
    by_cases h : a < ofN m (n + 1)
    · rw [if_pos h]
      have ha : ∀ j, 0 < j → j ≤ n → ofN m j ≤ a := by
        rcases ih with ⟨-, -, h3⟩ | ⟨k, -, -, -, -, -, h3, -⟩
        · exact fun j b1 b2 => by rw [h3 j b1 b2]; omega
        · exact h3
      refine Or.inr ⟨n + 1, rfl, by omega, by omega, rfl, by dsimp only; omega, fun j b1 b2 => ?_, fun j b1 b2 => ?_⟩
      · dsimp only
        rcases Nat.lt_or_ge n j with c | c
        · rw [show j = n + 1 by omega]; exact Nat.le_refl _
        · have := ha j b1 c; omega
      · have := ha j b1 (by omega)
        dsimp only
        omega
    · rw [if_neg h]
      dsimp only
      rcases ih with ⟨h1, h2, h3⟩ | ⟨k, h1, h2, h4, h5, h6, h7, h8⟩
      · exact Or.inl ⟨h1, h2, fun j b1 b2 => by
          rcases Nat.lt_or_ge n j with c | c
          · rw [show j = n + 1 by omega]; omega
          · exact h3 j b1 c⟩
      · exact Or.inr ⟨k, h1, h2, by omega, h5, h6, fun j b1 b2 => by
          rcases Nat.lt_or_ge n j with c | c
          · rw [show j = n + 1 by omega]; omega
          · exact h7 j b1 c, h8⟩
theorem mo_eq {m : Nat} {w : Int32} (h : moB m 0 60 w) : w = moN m := by
  have h2 := moF_char m 60
  show w = (moF m 60).2
  generalize moF m 60 = z at h2 ⊢
  obtain ⟨a, v⟩ := z
  dsimp only at h2 ⊢
  rcases h with ⟨rfl, h⟩ | ⟨k, rfl, a1, a2, a3, a4, a5⟩
  · rcases h2 with ⟨h2, -⟩ | ⟨k, -, b1, b2, b3, b4, -⟩
    · exact h2.symm
    · have := h k b1 b2
      omega
  · rcases h2 with ⟨-, -, h2⟩ | ⟨k', h2, b1, b2, b3, b4, b5, b6⟩
    · have := h2 k a1 a2
      omega
    · have c1 := a4 k' b1 b2
      have c2 := b5 k a1 a2
      rcases Nat.lt_trichotomy k k' with q | q | q
      · have := b6 k a1 q
        omega
      · rw [h2, q]
      · have := a5 k' b1 q
        omega
def tdM (m : Nat) (em sk : Nat → Int32) (lg se tr un kr kc tm x : Int32) : Int32 := if inS (x - 100) = true then (if stn m (x - 100) = true then em (x - 100).toNatClampNeg else -6) else if inL (x - 200) = true then sk (x - 200).toNatClampNeg else if x = 0 then lg else if x = 1 then se else if x = 2 then tr else if x = 3 then un else if x = 4 then kr else if x = 5 then kc else if x = 6 then tm else -2
/-- what is left without a dish -/
def rwN (m s : Nat) : Nat := reN (woN m (2 ^ s))
theorem rwN_eq {m s : Nat} (h : s ≤ 60) : reN (woN m (bitO (nI s))) = rwN m s := by rw [bitO_nI h]; rfl
theorem rwN_le (m s : Nat) : rwN m s ≤ 60 := reN_le _
def ahP (m t : Nat) : Nat → Bool := fun s => m.testBit s && (!decide (s = t) && (decide (rwN m s < rwN m t) || (decide (rwN m s = rwN m t) && decide (s < t))))
def ahN (m t : Nat) : Nat := fb_ct (ahP m t) 61
/-- the first dish ahead of which there are so many -/
def msF (m : Nat) (i : Int32) : Nat → Nat → Int32
  | 0, _ => -6
  | n + 1, q => if m.testBit q = true ∧ nI (ahN m q) = i then nI q else msF m i n (q + 1)
def msA (m : Nat) (i : Int32) : Int32 := msF m i 61 0
theorem msF_s (m : Nat) (i : Int32) (n q : Nat) : msF m i (n + 1) q = if m.testBit q = true ∧ nI (ahN m q) = i then nI q else msF m i n (q + 1) := rfl
def sureM (m : Nat) : Int32 := if msA m 0 < 0 then 0 else nI (reN (woN m (bitO (msA m 0))))
