/-! The reference's searches: marks as lists, the last one first. -/
def atL : List Nat → Nat → Nat
  | [], _ => 0
  | x :: t, j => if j = t.length then x else atL t j
def srt : List Nat → Prop
  | [] => True
  | x :: t => (∀ y ∈ t, y < x) ∧ srt t
def bkL : List Nat → Nat
  | [] => 0
  | x :: t => bkL t * 2 ^ (x - t.headD 0) ||| 1
def lnL : List Nat → Nat
  | [] => 0
  | x :: t => lnL t ||| bkL t * 2 ^ (x - t.headD 0)
def mkL : List Nat → Nat
  | [] => 0
  | x :: t => mkL t ||| 2 ^ x
theorem at_mem : ∀ (ms : List Nat) (j : Nat), j < ms.length → atL ms j ∈ ms
  | [], _, h => absurd h (Nat.not_lt_zero _)
  | x :: t, j, h => by
    unfold atL
    by_cases e : j = t.length
    · rw [if_pos e]; exact List.mem_cons_self
    · rw [if_neg e]
      simp only [List.length_cons] at h
      exact List.mem_cons_of_mem _ (at_mem t j (by omega))
theorem mem_at : ∀ (ms : List Nat) (y : Nat), y ∈ ms → ∃ j, j < ms.length ∧ atL ms j = y
  | [], _, h => by cases h
  | x :: t, y, h => by
    rcases List.mem_cons.mp h with rfl | h
    · exact ⟨t.length, by simp, by unfold atL; rw [if_pos rfl]⟩
    · obtain ⟨j, h1, h2⟩ := mem_at t y h
      refine ⟨j, by simp only [List.length_cons]; omega, ?_⟩
      unfold atL
      rw [if_neg (by omega)]
      exact h2
theorem at_lt : ∀ (ms : List Nat), srt ms → ∀ g f, g < f → f < ms.length → atL ms g < atL ms f
  | [], _, g, f, _, h => absurd h (Nat.not_lt_zero _)
  | x :: t, hs, g, f, h1, h2 => by
    simp only [List.length_cons] at h2
    unfold atL
    by_cases e : f = t.length
    · rw [if_pos e, if_neg (by omega)]
      exact hs.1 _ (at_mem t g (by omega))
    · rw [if_neg e, if_neg (by omega)]
      exact at_lt t hs.2 g f h1 (by omega)
theorem sp_tb : ∀ (ms : List Nat), srt ms → ∀ mark, (∀ y ∈ ms, y < mark) → ∀ i, (bkL ms * 2 ^ (mark - ms.headD 0)).testBit i = true ↔ ∃ y ∈ ms, mark - y = i
  | [], _, mark, _, i => by
    simp [bkL]
  | x :: t, hs, mark, hm, i => by
    have ih := sp_tb t hs.2 x hs.1
    have hx := hm x List.mem_cons_self
    show ((bkL t * 2 ^ (x - t.headD 0) ||| 1) * 2 ^ (mark - x)).testBit i = true ↔ _
    rw [Nat.testBit_mul_two_pow, Bool.and_eq_true, decide_eq_true_eq, Nat.testBit_or, Bool.or_eq_true, ih, show (1 : Nat) = 2 ^ 0 from rfl, Nat.testBit_two_pow, decide_eq_true_eq]
    constructor
    · rintro ⟨h1, ⟨y, hy, h2⟩ | h2⟩
      · have := hs.1 y hy
        exact ⟨y, List.mem_cons_of_mem _ hy, by omega⟩
      · exact ⟨x, List.mem_cons_self, by omega⟩
    · rintro ⟨y, hy, h⟩
      rcases List.mem_cons.mp hy with rfl | hy
      · exact ⟨by omega, Or.inr (by omega)⟩
      · have := hs.1 y hy
        exact ⟨by omega, Or.inl ⟨y, hy, by omega⟩⟩
theorem ln_tb : ∀ (ms : List Nat), srt ms → ∀ i, (lnL ms).testBit i = true ↔ ∃ z ∈ ms, ∃ y ∈ ms, y < z ∧ z - y = i
  | [], _, i => by simp [lnL]
  | x :: t, hs, i => by
    have ih := ln_tb t hs.2 i
    have h2 := sp_tb t hs.2 x hs.1 i
    show (lnL t ||| bkL t * 2 ^ (x - t.headD 0)).testBit i = true ↔ _
    rw [Nat.testBit_or, Bool.or_eq_true, ih, h2]
    constructor
    · rintro (⟨z, hz, y, hy, h⟩ | ⟨y, hy, h⟩)
      · exact ⟨z, List.mem_cons_of_mem _ hz, y, List.mem_cons_of_mem _ hy, h⟩
      · exact ⟨x, List.mem_cons_self, y, List.mem_cons_of_mem _ hy, hs.1 y hy, h⟩
    · rintro ⟨z, hz, y, hy, h, h3⟩
      rcases List.mem_cons.mp hz with hz2 | hz2
      · rcases List.mem_cons.mp hy with hy2 | hy2
        · omega
        · exact Or.inr ⟨y, hy2, by rw [← hz2]; exact h3⟩
      · rcases List.mem_cons.mp hy with hy2 | hy2
        · have := hs.1 z hz2
          omega
        · exact Or.inl ⟨z, hz2, y, hy2, h, h3⟩
theorem and_0 {x y : Nat} : x &&& y = 0 ↔ ∀ i, ¬ (x.testBit i = true ∧ y.testBit i = true) := by
  constructor
  · intro h i hi
    have := congrArg (fun z => z.testBit i) h
    simp only [Nat.testBit_and, Nat.zero_testBit] at this
    rw [hi.1, hi.2] at this
    exact absurd this (by decide)
  · intro h
    apply Nat.eq_of_testBit_eq
    intro i
    rw [Nat.testBit_and, Nat.zero_testBit]
    have := h i
    cases h1 : x.testBit i <;> cases h2 : y.testBit i <;> simp_all
/-- all of the first n -/
def al (p : Nat → Bool) : Nat → Bool
  | 0 => true
  | n + 1 => al p n && p n
theorem al_s (p : Nat → Bool) (n : Nat) : al p (n + 1) = (al p n && p n) := rfl
theorem al_t {p : Nat → Bool} : ∀ {n : Nat}, al p n = true ↔ ∀ k, k < n → p k = true
  | 0 => ⟨fun _ k h => absurd h (Nat.not_lt_zero _), fun _ => rfl⟩
  | n + 1 => by
    rw [al_s, Bool.and_eq_true, al_t (n := n)]
    constructor
    · rintro ⟨h1, h2⟩ k hk
      rcases Nat.lt_or_ge k n with q | q
      · exact h1 k q
      · rw [show k = n by omega]; exact h2
    · exact fun h => ⟨fun k hk => h k (by omega), h n (by omega)⟩
def nwP (ms : List Nat) (mark u f g : Nat) : Bool := !decide (atL ms f - atL ms g = mark - atL ms u)
def nwA (ms : List Nat) (mark u : Nat) : Bool := al (fun f => al (nwP ms mark u f) f) ms.length
theorem nw_eq {ms : List Nat} {mark : Nat} (hs : srt ms) (hm : ∀ y ∈ ms, y < mark) : al (nwA ms mark) ms.length = decide (bkL ms * 2 ^ (mark - ms.headD 0) &&& lnL ms = 0) := by
  have key : al (nwA ms mark) ms.length = true ↔ bkL ms * 2 ^ (mark - ms.headD 0) &&& lnL ms = 0 := by
    rw [al_t, and_0]
    constructor
    · rintro h i ⟨h1, h2⟩
      obtain ⟨y, hy, hi⟩ := (sp_tb ms hs mark hm i).mp h1
      obtain ⟨z, hz, w, hw, hlt, hi2⟩ := (ln_tb ms hs i).mp h2
      obtain ⟨u, u1, u2⟩ := mem_at ms y hy
      obtain ⟨f, f1, f2⟩ := mem_at ms z hz
      obtain ⟨g, g1, g2⟩ := mem_at ms w hw
      have hgf : g < f := by
        rcases Nat.lt_trichotomy g f with q | q | q
        · exact q
        · rw [q] at g2; omega
        · have := at_lt ms hs f g q g1; omega
      have h3 := al_t.mp (al_t.mp (h u u1) f f1) g hgf
      unfold nwP at h3
      rw [u2, f2, g2] at h3
      have : z - w = mark - y := by omega
      simp [this] at h3
    · intro h u hu
      refine al_t.mpr (fun f hf => al_t.mpr (fun g hg => ?_))
      unfold nwP
      have hne : ¬ atL ms f - atL ms g = mark - atL ms u := fun e =>
        h (mark - atL ms u) ⟨(sp_tb ms hs mark hm _).mpr ⟨_, at_mem ms u hu, rfl⟩, (ln_tb ms hs _).mpr ⟨_, at_mem ms f hf, _, at_mem ms g (by omega), at_lt ms hs g f hg hf, e⟩⟩
      simp [hne]
  cases h : al (nwA ms mark) ms.length with
  | true => rw [decide_eq_true (key.mp h)]
  | false => rw [decide_eq_false (fun q => by rw [key.mpr q] at h; cases h)]
/-- the row of the marks holds the list -/
def okM (ms : List Nat) (mf : Nat → Int32) : Prop := ∀ j, j < ms.length → mf j = nI (atL ms j)
theorem okM_t {x : Nat} {t : List Nat} {mf : Nat → Int32} (h : okM (x :: t) mf) : okM t mf := fun j hj => by
  have := h j (by simp only [List.length_cons]; omega)
  rw [this]
  show nI (if j = t.length then x else atL t j) = _
  rw [if_neg (by omega)]
theorem okM_up {ms : List Nat} {mf : Nat → Int32} {k : Nat} {v : Int32} (h : okM ms mf) (hk : ms.length ≤ k) : okM ms (upd mf k v) := fun j hj => by
  unfold upd
  rw [if_neg (by omega)]
  exact h j hj
theorem okM_c {ms : List Nat} {mf : Nat → Int32} {x : Nat} (h : okM ms mf) : okM (x :: ms) (upd mf ms.length (nI x)) := fun j hj => by
  show _ = nI (if j = ms.length then x else atL ms j)
  unfold upd
  by_cases e : j = ms.length
  · rw [if_pos e, if_pos e]
  · rw [if_neg e, if_neg e]
    simp only [List.length_cons] at hj
    exact h j (by omega)
/-! The steps of a search, by a stack of marks, with each the next mark behind it. -/
def msO (st : List (Nat × Nat)) : List Nat := st.map Prod.fst
def stR (sz k nxt : Nat) : Nat := if k = 0 then max nxt sz else nxt
def coR (sz n : Nat) : List (Nat × Nat) → RAcc → RAcc
  | [], a => a
  | (last, nxt) :: t, a => coR sz n t (rLoop (rB (rT sz (n - 1 - (t.length + 1))) (n - 1 - (t.length + 1)) last (bkL (last :: msO t)) (lnL (last :: msO t)) (mkL (last :: msO t)) (last :: msO t)) (rTo sz (n - 1 - (t.length + 1)) + 1 - stR sz (n - 1 - (t.length + 1)) nxt) (stR sz (n - 1 - (t.length + 1)) nxt) a)
/-- the rows hold the stack -/
def okT (nf : Nat → Int32) : List (Nat × Nat) → Prop
  | [] => True
  | (x, y) :: t => nf (t.length + 1) = nI y ∧ x < y ∧ y ≤ 61 ∧ okT nf t
def muT (n : Nat) : List (Nat × Nat) → Nat
  | [] => 0
  | (_, y) :: t => (63 - y) * 64 ^ (n - t.length) + muT n t
theorem okT_up {nf : Nat → Int32} : ∀ {st : List (Nat × Nat)} {k : Nat} {v : Int32}, okT nf st → st.length < k → okT (upd nf k v) st
  | [], _, _, _, _ => trivial
  | (x, y) :: t, k, v, h, hk => by
    simp only [List.length_cons] at hk
    refine ⟨?_, h.2.1, h.2.2.1, okT_up h.2.2.2 (by omega)⟩
    unfold upd
    rw [if_neg (by omega)]
    exact h.1
theorem coR_c (sz n last nxt : Nat) (t : List (Nat × Nat)) (a : RAcc) : coR sz n ((last, nxt) :: t) a = coR sz n t (rLoop (rB (rT sz (n - 1 - (t.length + 1))) (n - 1 - (t.length + 1)) last (bkL (last :: msO t)) (lnL (last :: msO t)) (mkL (last :: msO t)) (last :: msO t)) (rTo sz (n - 1 - (t.length + 1)) + 1 - stR sz (n - 1 - (t.length + 1)) nxt) (stR sz (n - 1 - (t.length + 1)) nxt) a) := rfl
theorem coR_pop {sz n last nxt : Nat} {t : List (Nat × Nat)} {a : RAcc} (h : rTo sz (n - 1 - (t.length + 1)) < stR sz (n - 1 - (t.length + 1)) nxt) : coR sz n ((last, nxt) :: t) a = coR sz n t a := by
  rw [coR_c, show rTo sz (n - 1 - (t.length + 1)) + 1 - stR sz (n - 1 - (t.length + 1)) nxt = 0 by omega]
  rfl
theorem stR_1 {sz k nxt : Nat} : stR sz k (stR sz k nxt + 1) = stR sz k nxt + 1 := by
  unfold stR
  split
  · omega
  · rfl
theorem coR_step {sz n last nxt k mark : Nat} {t : List (Nat × Nat)} {a : RAcc} (hk : n - 1 - (t.length + 1) = k) (hmk : stR sz k nxt = mark) (h : mark ≤ rTo sz k) : coR sz n ((last, nxt) :: t) a = coR sz n ((last, mark + 1) :: t) (rB (rT sz k) k last (bkL (last :: msO t)) (lnL (last :: msO t)) (mkL (last :: msO t)) (last :: msO t) mark a) := by
  subst hmk
  unfold coR
  rw [hk, stR_1, show rTo sz k + 1 - stR sz k nxt = (rTo sz k + 1 - (stR sz k nxt + 1)) + 1 by omega]
  rfl
theorem coR_push {sz n last nxt k mark : Nat} {t : List (Nat × Nat)} {a : RAcc} (hk : n - 1 - (t.length + 1) = k + 1) : coR sz n ((mark, mark + 1) :: (last, nxt) :: t) a = coR sz n ((last, nxt) :: t) (rT sz (k + 1) mark (bkL (last :: msO t) * 2 ^ (mark - last) ||| 1) (lnL (last :: msO t) ||| bkL (last :: msO t) * 2 ^ (mark - last)) (mkL (last :: msO t) ||| 2 ^ mark) (mark :: last :: msO t) a) := by
  have h2 : n - 1 - (((last, nxt) :: t).length + 1) = k := by simp only [List.length_cons]; omega
  conv => lhs; unfold coR
  rw [h2]
  rfl
theorem rB_no {go : Nat → Nat → Nat → Nat → List Nat → RAcc → RAcc} {k last back lens marks mark : Nat} {ms : List Nat} {a : RAcc} (h : ¬ (back * 2 ^ (mark - last)) &&& lens = 0) : rB go k last back lens marks ms mark a = rTry a := by
  unfold rB
  rw [if_neg h]
theorem rB_end {go : Nat → Nat → Nat → Nat → List Nat → RAcc → RAcc} {last back lens marks mark : Nat} {ms : List Nat} {a : RAcc} (h : (back * 2 ^ (mark - last)) &&& lens = 0) : rB go 0 last back lens marks ms mark a = rAdd (rTry a) (marks ||| 2 ^ mark) (mark :: ms) := by
  unfold rB
  rw [if_pos h, if_pos rfl]
theorem rB_go {go : Nat → Nat → Nat → Nat → List Nat → RAcc → RAcc} {k last back lens marks mark : Nat} {ms : List Nat} {a : RAcc} (h : (back * 2 ^ (mark - last)) &&& lens = 0) : rB go (k + 1) last back lens marks ms mark a = go mark (back * 2 ^ (mark - last) ||| 1) (lens ||| back * 2 ^ (mark - last)) (marks ||| 2 ^ mark) (mark :: ms) (rTry a) := by
  unfold rB
  rw [if_pos h, if_neg (by omega)]
theorem mu_up {n y y' x x' : Nat} {t : List (Nat × Nat)} (h : y < y') (hy : y' ≤ 62) : muT n ((x', y') :: t) + 64 ^ (n - t.length) ≤ muT n ((x, y) :: t) := by
  show (63 - y') * 64 ^ (n - t.length) + muT n t + 64 ^ (n - t.length) ≤ (63 - y) * 64 ^ (n - t.length) + muT n t
  have : (63 - y' + 1) * 64 ^ (n - t.length) ≤ (63 - y) * 64 ^ (n - t.length) := Nat.mul_le_mul_right _ (by omega)
  rw [Nat.add_mul, Nat.one_mul] at this
  omega
theorem mu_lt {n y y' x x' : Nat} {t : List (Nat × Nat)} (h : y < y') (hy : y' ≤ 62) : muT n ((x', y') :: t) < muT n ((x, y) :: t) := by
  have := mu_up (n := n) (x := x) (x' := x') (t := t) h hy
  have h2 : 0 < 64 ^ (n - t.length) := Nat.pow_pos (by decide)
  omega
theorem mu_pop {n x y : Nat} {t : List (Nat × Nat)} (hy : y ≤ 62) : muT n t < muT n ((x, y) :: t) := by
  show muT n t < (63 - y) * 64 ^ (n - t.length) + muT n t
  have h2 : 0 < (63 - y) * 64 ^ (n - t.length) := Nat.mul_pos (by omega) (Nat.pow_pos (by decide))
  omega
theorem mu_push {n y y' x x' z w : Nat} {t : List (Nat × Nat)} (h : y < y') (hy : y' ≤ 62) (hn : t.length < n) : muT n ((z, w) :: (x', y') :: t) < muT n ((x, y) :: t) := by
  have h1 := mu_up (n := n) (x := x) (x' := x') (t := t) h hy
  show (63 - w) * 64 ^ (n - (t.length + 1)) + muT n ((x', y') :: t) < _
  have h3 : (63 - w) * 64 ^ (n - (t.length + 1)) < 64 ^ (n - t.length) := by
    rw [show n - t.length = (n - (t.length + 1)) + 1 by omega, Nat.pow_succ, Nat.mul_comm]
    exact Nat.mul_lt_mul_of_pos_left (by omega) (Nat.pow_pos (by decide))
  omega
/-- the row of all marks holds the first list found, from a place on -/
def okK (fl : List Nat) (rk : Nat → Int32) (o : Nat) : Prop := ∀ j, j < fl.length → rk (o + j) = nI (atL fl j)
def okR (n : Nat) (a : RAcc) (rk0 rk : Nat → Int32) : Prop := (∀ i, i < 12 * n ∨ 12 * n + 12 ≤ i → rk i = rk0 i) ∧ (nI a.1 ≠ 0 → a.2.2.2.length = n ∧ okK a.2.2.2 rk (12 * n))
theorem okR_try {n : Nat} {a : RAcc} {rk0 rk : Nat → Int32} (h : okR n a rk0 rk) : okR n (rTry a) rk0 rk := h
theorem okR_add {n : Nat} {a : RAcc} {rk0 rk mf : Nat → Int32} {x : Nat} {xs : List Nat} (h : okR n a rk0 rk) (hn : n ≤ 12) (hl : xs.length = n) (hm : okM xs mf) : okR n (rAdd a x xs) rk0 (if nI a.1 = 0 then cpy mf rk (12 * n) n else rk) := by
  refine ⟨fun i hi => ?_, fun _ => ?_⟩
  · by_cases h0 : nI a.1 = 0
    · rw [if_pos h0, cpy_out (by omega)]
      exact h.1 i hi
    · rw [if_neg h0]
      exact h.1 i hi
  · show (if nI a.1 = 0 then xs else a.2.2.2).length = n ∧ okK (if nI a.1 = 0 then xs else a.2.2.2) _ _
    by_cases h0 : nI a.1 = 0
    · rw [if_pos h0, if_pos h0]
      refine ⟨hl, fun j hj => ?_⟩
      rw [cpy_in (by omega)]
      exact hm j hj
    · rw [if_neg h0, if_neg h0]
      exact h.2 h0
theorem upd_at (f : Nat → Int32) (n : Nat) (v : Int32) : upd f n v n = v := by unfold upd; rw [if_pos rfl]
