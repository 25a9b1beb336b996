/-! The dish that is missed the most, and those behind it: both sides find the same. -/
def kyL (m s t : Nat) : Prop := rwN m s < rwN m t ∨ (rwN m s = rwN m t ∧ s < t)
theorem ky_ir {m s : Nat} : ¬ kyL m s s := by unfold kyL; omega
theorem ky_tr {m s t u : Nat} (h1 : kyL m s t) (h2 : kyL m t u) : kyL m s u := by unfold kyL at h1 h2 ⊢; omega
theorem ky_tri {m s t : Nat} (h : s ≠ t) : kyL m s t ∨ kyL m t s := by unfold kyL; omega
theorem ah_at {m s t : Nat} : ahP m t s = true ↔ m.testBit s = true ∧ kyL m s t := by
  unfold ahP kyL
  simp only [Bool.and_eq_true, Bool.or_eq_true, Bool.not_eq_true', decide_eq_true_eq, decide_eq_false_iff_not]
  constructor
  · rintro ⟨h1, h2, h3⟩
    exact ⟨h1, h3⟩
  · rintro ⟨h1, h3⟩
    refine ⟨h1, fun e => ?_, h3⟩
    subst e
    omega
theorem ah_ir {m s : Nat} : ahP m s s = false := by
  cases hb : ahP m s s with
  | false => rfl
  | true => exact absurd (ah_at.mp hb).2 ky_ir
theorem ah_lt {m s t : Nat} (hm : m < 2 ^ 61) (hs : m.testBit s = true) (h : kyL m s t) : ahN m s < ahN m t := by
  have h1 := fb_ct_upd (ahP m s) true (i := s) (n := 61) (tb_lt hm hs)
  have h3 : fb_ct (fun k => if k = s then true else ahP m s k) 61 ≤ fb_ct (ahP m t) 61 := fb_ct_sub (fun k _ hk => by
    by_cases e : k = s
    · rw [e]; exact ah_at.mpr ⟨hs, h⟩
    · rw [if_neg e] at hk
      have h4 := ah_at.mp hk
      exact ah_at.mpr ⟨h4.1, ky_tr h4.2 h⟩)
  rw [ah_ir, if_neg (show ¬ (false = true) by decide), if_pos (show true = true from rfl)] at h1
  unfold ahN
  omega
theorem ah_pc {m t : Nat} (hm : m < 2 ^ 61) (ht : m.testBit t = true) : ahN m t < pcN 64 m := by
  have h1 := fb_ct_upd (ahP m t) true (i := t) (n := 61) (tb_lt hm ht)
  have h3 : fb_ct (fun k => if k = t then true else ahP m t k) 61 ≤ fb_ct (fun k => m.testBit k) 61 := fb_ct_sub (fun k _ hk => by
    by_cases e : k = t
    · rw [e]; exact ht
    · rw [if_neg e] at hk
      exact (ah_at.mp hk).1)
  rw [ah_ir, if_neg (show ¬ (false = true) by decide), if_pos (show true = true from rfl)] at h1
  rw [← pcN_61 hm]
  unfold ahN
  omega
theorem ah_inj {m s t : Nat} (hm : m < 2 ^ 61) (hs : m.testBit s = true) (ht : m.testBit t = true) (h : ahN m s = ahN m t) : s = t := by
  by_cases e : s = t
  · exact e
  · rcases ky_tri (m := m) e with q | q
    · have := ah_lt hm hs q; omega
    · have := ah_lt hm ht q; omega
def mmQ (m ny s least : Nat) (most : Int32) : Prop := (least = 61 ∧ most = -6 ∧ ∀ j, j < s → ny.testBit j = false) ∨ ∃ t, t < s ∧ most = nI t ∧ least = rwN m t ∧ ny.testBit t = true ∧ ∀ j, j < s → ny.testBit j = true → j = t ∨ kyL m t j
theorem mmF_q (m ny : Nat) : ∀ n s least most, s + n = 61 → mmQ m ny s least most → ∃ le2, mmQ m ny 61 le2 (mmF m ny n s least most)
  | 0, s, least, most, e, h => ⟨least, by rw [show s = 61 by omega] at h; exact h⟩
  | n + 1, s, least, most, e, h => by
    rw [mmF_s]
    by_cases hb : ny.testBit s = true
    · rw [if_pos hb]
      by_cases hl : reN (woN m (2 ^ s)) < least
      · rw [if_pos hl]
        refine mmF_q m ny n (s + 1) _ _ (by omega) (Or.inr ⟨s, by omega, rfl, rfl, hb, fun j h1 h2 => ?_⟩)
        by_cases e2 : j = s
        · exact Or.inl e2
        · right
          rcases h with ⟨h3, h4, h5⟩ | ⟨t, h3, h4, h5, h6, h7⟩
          · have h8 := h5 j (by omega)
            rw [h8] at h2
            cases h2
          · have hl2 : rwN m s < rwN m t := by rw [← h5]; exact hl
            rcases h7 j (by omega) h2 with q | q
            · subst q
              exact Or.inl hl2
            · unfold kyL at q ⊢
              omega
      · rw [if_neg hl]
        refine mmF_q m ny n (s + 1) _ _ (by omega) ?_
        rcases h with ⟨h3, h4, h5⟩ | ⟨t, h3, h4, h5, h6, h7⟩
        · have h8 := rwN_le m s
          unfold rwN at h8
          omega
        · refine Or.inr ⟨t, by omega, h4, h5, h6, fun j h1 h2 => ?_⟩
          by_cases e2 : j = s
          · right
            subst e2
            have h8 : ¬ rwN m j < rwN m t := by rw [← h5]; exact hl
            unfold kyL
            omega
          · exact h7 j (by omega) h2
    · rw [if_neg hb]
      refine mmF_q m ny n (s + 1) _ _ (by omega) ?_
      rcases h with ⟨h3, h4, h5⟩ | ⟨t, h3, h4, h5, h6, h7⟩
      · refine Or.inl ⟨h3, h4, fun j h1 => ?_⟩
        by_cases e2 : j = s
        · subst e2
          simpa using hb
        · exact h5 j (by omega)
      · refine Or.inr ⟨t, by omega, h4, h5, h6, fun j h1 h2 => ?_⟩
        by_cases e2 : j = s
        · subst e2
          exact absurd h2 hb
        · exact h7 j (by omega) h2
theorem mmA_q (m ny : Nat) : ∃ le2, mmQ m ny 61 le2 (mmA m ny) := mmF_q m ny 61 0 61 (-6) rfl (Or.inl ⟨rfl, rfl, fun j h => absurd h (Nat.not_lt_zero j)⟩)
/-- those behind the first a of them are left -/
def miQ (m a ny : Nat) : Prop := (∀ s, ny.testBit s = (m.testBit s && decide (a ≤ ahN m s))) ∧ ny < 2 ^ 61 ∧ pcN 64 ny + a = pcN 64 m
theorem mi_t {m a ny : Nat} (hm : m < 2 ^ 61) (h : miQ m a ny) (ha : a < pcN 64 m) : ∃ t, t < 61 ∧ mmA m ny = nI t ∧ m.testBit t = true ∧ ahN m t = a ∧ miQ m (a + 1) (woN ny (bitO (mmA m ny))) := by
  obtain ⟨hb, hlt, hc⟩ := h
  obtain ⟨le2, h1 | ⟨t, h1, h2, h3, h4, h5⟩⟩ := mmA_q m ny
  · have h2 : fb_ct (fun k => ny.testBit k) 61 = 0 := fb_ct_zero.mpr h1.2.2
    rw [pcN_61 hlt] at h2
    omega
  · have h6 : m.testBit t = true ∧ a ≤ ahN m t := by
      have h7 := hb t
      rw [h4] at h7
      have h8 := h7.symm
      rw [Bool.and_eq_true, decide_eq_true_eq] at h8
      exact h8
    have hat : ahN m t = a := by
      have q1 : fb_ct (fun k => ny.testBit k || ahP m t k) 61 = fb_ct (fun k => ny.testBit k) 61 + fb_ct (ahP m t) 61 := fb_ct_or (fun k hk z => by
        have z2 := (ah_at.mp z.2).2
        rcases h5 k hk z.1 with q | q
        · subst q
          exact ky_ir z2
        · exact ky_ir (ky_tr q z2))
      have q2 : fb_ct (fun k => ny.testBit k || ahP m t k) 61 = fb_ct (fun k => m.testBit k) 61 := fb_ct_cong (fun k hk => by
        cases hmk : m.testBit k with
        | false =>
          have z1 : ny.testBit k = false := by rw [hb, hmk]; rfl
          have z2 : ahP m t k = false := by
            cases z3 : ahP m t k with
            | false => rfl
            | true => have z4 := (ah_at.mp z3).1; rw [hmk] at z4; cases z4
          rw [z1, z2]
          rfl
        | true =>
          cases z1 : ny.testBit k with
          | true => rfl
          | false =>
            have z2 : ¬ a ≤ ahN m k := fun z => by
              have z3 := hb k
              rw [z1, hmk, decide_eq_true z] at z3
              cases z3
            have z3 : ahP m t k = true := ah_at.mpr ⟨hmk, by
              by_cases e : k = t
              · subst e; omega
              · rcases ky_tri (m := m) e with q | q
                · exact q
                · have := ah_lt hm h6.1 q; omega⟩
            rw [z3]
            rfl)
      rw [q2, pcN_61 hm, pcN_61 hlt] at q1
      unfold ahN
      omega
    refine ⟨t, h1, h2, h6.1, hat, fun s => ?_, wo_lt _ hlt, ?_⟩
    · rw [h2, bitO_nI (by omega), wo_tb, Nat.testBit_two_pow, hb]
      cases hms : m.testBit s with
      | false => rfl
      | true =>
        by_cases e : t = s
        · subst e
          rw [hat]
          simp
        · have e2 : ahN m s ≠ a := fun z => e (ah_inj hm h6.1 hms (by omega))
          by_cases c : a ≤ ahN m s
          · rw [decide_eq_true c, decide_eq_false e, decide_eq_true (show a + 1 ≤ ahN m s by omega)]
            rfl
          · rw [decide_eq_false c, decide_eq_false (show ¬ a + 1 ≤ ahN m s by omega)]
            rfl
    · have q1 := fb_ct_upd (fun k => ny.testBit k) false (i := t) (n := 64) (by omega)
      have q2 : pcN 64 (woN ny (bitO (mmA m ny))) = fb_ct (fun k => if k = t then false else ny.testBit k) 64 := fb_ct_cong (fun k _ => by
        rw [h2, bitO_nI (by omega), wo_tb, Nat.testBit_two_pow]
        by_cases e : k = t
        · subst e
          rw [if_pos rfl]
          simp
        · rw [if_neg e, decide_eq_false (fun z => e z.symm)]
          simp)
      rw [q2]
      rw [if_pos h4, if_neg (show ¬ (false = true) by decide)] at q1
      have q3 : pcN 64 ny = fb_ct (fun k => ny.testBit k) 64 := rfl
      omega
theorem mi_all {m : Nat} (hm : m < 2 ^ 61) : ∀ n a ny, miQ m a ny → a + n ≤ pcN 64 m → miQ m (a + n) (miF m n ny)
  | 0, a, ny, h, _ => h
  | n + 1, a, ny, h, hp => by
    obtain ⟨t, -, -, -, -, h5⟩ := mi_t hm h (by omega)
    have h6 := mi_all hm n (a + 1) _ h5 (by omega)
    rw [show a + (n + 1) = a + 1 + n by omega]
    exact h6
theorem mi_0 {m : Nat} (hm : m < 2 ^ 61) : miQ m 0 m := ⟨fun s => by simp, hm, rfl⟩
theorem mi_at {m j : Nat} (hm : m < 2 ^ 61) (hj : j < pcN 64 m) : ∃ t, t < 61 ∧ mmA m (miF m j m) = nI t ∧ m.testBit t = true ∧ ahN m t = j := by
  have h1 := mi_all hm j 0 m (mi_0 hm) (by omega)
  rw [Nat.zero_add] at h1
  obtain ⟨t, a1, a2, a3, a4, -⟩ := mi_t hm h1 hj
  exact ⟨t, a1, a2, a3, a4⟩
theorem ahN_le (m t : Nat) : ahN m t ≤ 61 := fb_ct_le _ 61
theorem ms_hit {m t : Nat} (hm : m < 2 ^ 61) (ht : m.testBit t = true) : ∀ n q, q + n = 61 → q ≤ t → msF m (nI (ahN m t)) n q = nI t
  | 0, q, e, h => by
    have := tb_lt hm ht
    omega
  | n + 1, q, e, h => by
    rw [msF_s]
    by_cases c : m.testBit q = true ∧ nI (ahN m q) = nI (ahN m t)
    · rw [if_pos c]
      have h1 := ahN_le m q
      have h2 := ahN_le m t
      have h3 := i_eq (by omega) (by omega) c.2
      rw [ah_inj hm c.1 ht h3]
    · rw [if_neg c]
      refine ms_hit hm ht n (q + 1) (by omega) ?_
      by_cases e2 : q = t
      · subst e2
        exact absurd ⟨ht, rfl⟩ c
      · omega
theorem ms_miss {m : Nat} {i : Int32} (h : ∀ q, m.testBit q = true → nI (ahN m q) ≠ i) : ∀ n q, msF m i n q = -6
  | 0, q => rfl
  | n + 1, q => by
    rw [msF_s, if_neg (fun c => h q c.1 c.2)]
    exact ms_miss h n (q + 1)
theorem mis_at {m j : Nat} (hm : m < 2 ^ 61) (hp : pcN 64 m ≤ 12) (hj : j < pcN 64 m) : misR m (nI j) = mmA m (miF m j m) := by
  unfold misR
  rw [if_pos ⟨nI_pos' (by omega), nI_lt hj (by omega)⟩, nI_clamp (by omega), Nat.min_eq_left (by omega)]
theorem mis_eq {m : Nat} {i : Int32} (hm : m < 2 ^ 61) (hp : pcN 64 m ≤ 12) : misR m i = msA m i := by
  by_cases h : 0 ≤ i ∧ i < nI (pcN 64 m)
  · obtain ⟨j, h1, rfl⟩ := nI_of2 (M := nI (pcN 64 m)) (n := pcN 64 m) (nI_toInt (by omega)) (Int32.not_lt.mpr h.1) (Int32.le_of_lt h.2)
    have hj : j < pcN 64 m := i_lt (by omega) (by omega) h.2
    obtain ⟨t, a1, a2, a3, a4⟩ := mi_at hm hj
    rw [mis_at hm hp hj, a2, ← a4]
    exact (ms_hit hm a3 61 0 rfl (Nat.zero_le _)).symm
  · have h1 : misR m i = -6 := by unfold misR; rw [if_neg h]
    rw [h1]
    refine (ms_miss (fun q hq e => h ?_) 61 0).symm
    have h2 := ah_pc hm hq
    rw [← e]
    exact ⟨nI_pos' (by omega), nI_lt h2 (by omega)⟩
theorem sure_eq {m : Nat} (hm : m < 2 ^ 61) (hp : pcN 64 m ≤ 12) : sureM m = sureR m := by
  unfold sureM sureR
  rw [← mis_eq hm hp]
  by_cases h : pcN 64 m = 0
  · rw [if_pos h, if_pos]
    unfold misR
    rw [if_neg (fun z => by rw [h] at z; exact absurd z.2 (by decide))]
    decide
  · rw [if_neg h]
    have h1 : misR m 0 = mmA m m := mis_at (j := 0) hm hp (by omega)
    obtain ⟨t, a1, a2, -, -⟩ := mi_at (j := 0) hm (by omega)
    have a3 : mmA m m = nI t := a2
    rw [h1, if_neg]
    rw [a3]
    exact Int32.not_lt.mpr (nI_pos' (by omega))
