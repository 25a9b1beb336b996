/-! The covers: what lacks, by the marks. -/
def an (p : Nat → Bool) : Nat → Bool
  | 0 => false
  | n + 1 => an p n || p n
theorem an_s (p : Nat → Bool) (n : Nat) : an p (n + 1) = (an p n || p n) := rfl
theorem an_t {p : Nat → Bool} : ∀ {n : Nat}, an p n = true ↔ ∃ k, k < n ∧ p k = true
  | 0 => ⟨fun h => (by cases h), fun ⟨k, h, _⟩ => absurd h (Nat.not_lt_zero _)⟩
  | n + 1 => by
    rw [an_s, Bool.or_eq_true, an_t (n := n)]
    constructor
    · rintro (⟨k, h1, h2⟩ | h)
      · exact ⟨k, by omega, h2⟩
      · exact ⟨n, by omega, h⟩
    · rintro ⟨k, h1, h2⟩
      rcases Nat.lt_or_ge k n with q | q
      · exact Or.inl ⟨k, q, h2⟩
      · exact Or.inr (by rw [show n = k by omega]; exact h2)
def lkQ (cf : Nat → Nat) (q u v : Nat) : Bool := decide (cf u = cf v + q)
def lkE (cf : Nat → Nat) (n q : Nat) : Bool := an (fun u => an (lkQ cf q u) n) n
def lkA (cf : Nat → Nat) (n : Nat) : Nat → Bool := fun i => !lkE cf n (i + 1)
theorem sub_is {a b q : Nat} (ha : a ≤ 100) (hb : b ≤ 100) (hq : q ≤ 100) : nI a - nI b = nI q ↔ a = b + q := by
  rw [fa_eq, pk_sub_toInt (by omega) (by omega), nI_toInt (by omega)]
  omega
def lcL (len : Nat) : List Nat → Nat
  | [] => 0
  | x :: t => lcL len t ||| bkL t * 2 ^ (x - t.headD 0) ||| 2 ^ (len - x)
def mcL (len : Nat) : List Nat → Nat
  | [] => 2 ^ len
  | x :: t => mcL len t ||| 2 ^ x
theorem lc_tb (len : Nat) : ∀ (ms : List Nat), srt ms → (∀ y ∈ ms, y < len) → ∀ i, (lcL len ms).testBit i = true ↔ ∃ z ∈ len :: ms, ∃ y ∈ ms, y < z ∧ z - y = i
  | [], _, _, i => by simp [lcL]
  | x :: t, hs, hl, i => by
    have ih := lc_tb len t hs.2 (fun y hy => hl y (List.mem_cons_of_mem _ hy)) i
    have h2 := sp_tb t hs.2 x hs.1 i
    have hx := hl x List.mem_cons_self
    show (lcL len t ||| bkL t * 2 ^ (x - t.headD 0) ||| 2 ^ (len - x)).testBit i = true ↔ _
    rw [Nat.testBit_or, Bool.or_eq_true, Nat.testBit_or, Bool.or_eq_true, ih, h2, Nat.testBit_two_pow, decide_eq_true_eq]
    constructor
    · rintro ((⟨z, hz, y, hy, h, h3⟩ | ⟨y, hy, h⟩) | h)
      · refine ⟨z, ?_, y, List.mem_cons_of_mem _ hy, h, h3⟩
        rcases List.mem_cons.mp hz with hz2 | hz2
        · rw [hz2]; exact List.mem_cons_self
        · exact List.mem_cons_of_mem _ (List.mem_cons_of_mem _ hz2)
      · exact ⟨x, List.mem_cons_of_mem _ List.mem_cons_self, y, List.mem_cons_of_mem _ hy, hs.1 y hy, h⟩
      · exact ⟨len, List.mem_cons_self, x, List.mem_cons_self, hx, h⟩
    · rintro ⟨z, hz, y, hy, h, h3⟩
      rcases List.mem_cons.mp hy with hy2 | hy2
      · rcases List.mem_cons.mp hz with hz2 | hz2
        · exact Or.inr (by omega)
        · rcases List.mem_cons.mp hz2 with hz3 | hz3
          · omega
          · have := hs.1 z hz3
            omega
      · rcases List.mem_cons.mp hz with hz2 | hz2
        · exact Or.inl (Or.inl ⟨z, by rw [hz2]; exact List.mem_cons_self, y, hy2, h, h3⟩)
        · rcases List.mem_cons.mp hz2 with hz3 | hz3
          · exact Or.inl (Or.inr ⟨y, hy2, by rw [← hz3]; exact h3⟩)
          · exact Or.inl (Or.inl ⟨z, List.mem_cons_of_mem _ hz3, y, hy2, h, h3⟩)
theorem lc_bd {len : Nat} {ms : List Nat} (hs : srt ms) (hl : ∀ y ∈ ms, y < len) {i : Nat} (h : (lcL len ms).testBit i = true) : 1 ≤ i ∧ i ≤ len := by
  obtain ⟨z, hz, y, hy, h1, h2⟩ := (lc_tb len ms hs hl i).mp h
  rcases List.mem_cons.mp hz with hz2 | hz2
  · omega
  · have := hl z hz2
    omega
theorem lc_lt {len : Nat} {ms : List Nat} (hs : srt ms) (hl : ∀ y ∈ ms, y < len) : lcL len ms < 2 ^ (len + 1) := by
  apply Nat.lt_pow_two_of_testBit
  intro i hi
  cases hb : (lcL len ms).testBit i with
  | false => rfl
  | true => have := lc_bd hs hl hb; omega
/-- the marks as the reference's row has them: 0, the length, those between -/
def cfL (len : Nat) (ms : List Nat) (j : Nat) : Nat := if j = 0 then 0 else if j = 1 then len else atL ms (j - 1)
theorem cf_mem {len : Nat} {ms : List Nat} (h0 : atL ms 0 = 0) (hne : ms ≠ []) (y : Nat) : (∃ j, j < ms.length + 1 ∧ cfL len ms j = y) ↔ y ∈ len :: ms := by
  have hlen : 0 < ms.length := by
    cases ms with
    | nil => exact absurd rfl hne
    | cons a t => simp
  constructor
  · rintro ⟨j, hj, rfl⟩
    unfold cfL
    by_cases e0 : j = 0
    · rw [if_pos e0, ← h0]
      exact List.mem_cons_of_mem _ (at_mem ms 0 hlen)
    · rw [if_neg e0]
      by_cases e1 : j = 1
      · rw [if_pos e1]; exact List.mem_cons_self
      · rw [if_neg e1]
        exact List.mem_cons_of_mem _ (at_mem ms (j - 1) (by omega))
  · intro h
    rcases List.mem_cons.mp h with h | h
    · exact ⟨1, by omega, by unfold cfL; rw [if_neg (by decide), if_pos rfl]; exact h.symm⟩
    · obtain ⟨j, hj, e⟩ := mem_at ms y h
      by_cases e0 : j = 0
      · subst e0
        exact ⟨0, by omega, by unfold cfL; rw [if_pos rfl, ← e, h0]⟩
      · refine ⟨j + 1, by omega, ?_⟩
        unfold cfL
        rw [if_neg (by omega), if_neg (by omega), Nat.add_sub_cancel]
        exact e
theorem lk_bit {len : Nat} {ms : List Nat} (hs : srt ms) (hl : ∀ y ∈ ms, y < len) (h0 : atL ms 0 = 0) (hne : ms ≠ []) {q : Nat} (hq : 1 ≤ q) : lkE (cfL len ms) (ms.length + 1) q = (lcL len ms).testBit q := by
  have key : lkE (cfL len ms) (ms.length + 1) q = true ↔ (lcL len ms).testBit q = true := by
    unfold lkE
    rw [an_t, lc_tb len ms hs hl q]
    constructor
    · rintro ⟨u, hu, h⟩
      obtain ⟨v, hv, h⟩ := an_t.mp h
      unfold lkQ at h
      have h := of_decide_eq_true h
      have m1 := (cf_mem (len := len) h0 hne _).mp ⟨u, hu, rfl⟩
      have m2 := (cf_mem (len := len) h0 hne _).mp ⟨v, hv, rfl⟩
      refine ⟨cfL len ms u, m1, cfL len ms v, ?_, by omega, by omega⟩
      · rcases List.mem_cons.mp m2 with e | e
        · rcases List.mem_cons.mp m1 with e2 | e2
          · omega
          · have := hl _ e2
            omega
        · exact e
    · rintro ⟨z, hz, y, hy, h, h3⟩
      obtain ⟨u, hu, e1⟩ := (cf_mem (len := len) h0 hne z).mpr hz
      obtain ⟨v, hv, e2⟩ := (cf_mem (len := len) h0 hne y).mpr (List.mem_cons_of_mem _ hy)
      exact ⟨u, hu, an_t.mpr ⟨v, hv, by unfold lkQ; exact decide_eq_true (by omega)⟩⟩
  cases h : (lcL len ms).testBit q with
  | true => exact key.mpr h
  | false => cases h2 : lkE (cfL len ms) (ms.length + 1) q with
    | false => rfl
    | true => rw [key.mp h2] at h; cases h
theorem lk_eq {len : Nat} {ms : List Nat} (hs : srt ms) (hl : ∀ y ∈ ms, y < len) (h0 : atL ms 0 = 0) (hne : ms ≠ []) (hlen : len ≤ 60) : fb_ct (lkA (cfL len ms) (ms.length + 1)) len = len - pcQ (lcL len ms) := by
  have hlt := lc_lt hs hl
  rw [← pcQ_eq (Nat.lt_of_lt_of_le hlt (Nat.pow_le_pow_right (by decide) (by omega)))]
  have e1 : pcN 64 (lcL len ms) = fb_ct (fun i => (lcL len ms).testBit (i + 1)) len := by
    unfold pcN
    have h1 : fb_ct (fun k => (lcL len ms).testBit k) ((1 + len) + (63 - len)) = fb_ct (fun k => (lcL len ms).testBit k) (1 + len) := ct_above (63 - len) (fun i hi => by
      show (lcL len ms).testBit i = false
      cases hb : (lcL len ms).testBit i with
      | false => rfl
      | true => have := lc_bd hs hl hb; omega)
    rw [show (1 + len) + (63 - len) = 64 by omega] at h1
    rw [h1, fb_ct_split]
    have h2 : fb_ct (fun k => (lcL len ms).testBit k) 1 = 0 := fb_ct_zero.mpr (fun k hk => by
      cases hb : (lcL len ms).testBit k with
      | false => rfl
      | true => have := lc_bd hs hl hb; omega)
    rw [h2, Nat.zero_add]
    exact fb_ct_cong (fun k _ => by rw [Nat.add_comm])
  have e2 := fb_ct_not (fun i => (lcL len ms).testBit (i + 1)) len
  have e3 : fb_ct (lkA (cfL len ms) (ms.length + 1)) len = fb_ct (fun k => !(lcL len ms).testBit (k + 1)) len := fb_ct_cong (fun k _ => by
    unfold lkA
    rw [lk_bit hs hl h0 hne (by omega)])
  rw [e1, e3]
  omega
/-- the row of the marks holds 0, the length, those between -/
def okC (len : Nat) (ms : List Nat) (mf : Nat → Int32) : Prop := ∀ j, j < ms.length + 1 → mf j = nI (cfL len ms j)
theorem okC_c {len x : Nat} {ms : List Nat} {mf : Nat → Int32} (h : okC len ms mf) (hne : ms ≠ []) : okC len (x :: ms) (upd mf (ms.length + 1) (nI x)) := fun j hj => by
  have hlen : 0 < ms.length := by
    cases ms with
    | nil => exact absurd rfl hne
    | cons a t => simp
  simp only [List.length_cons] at hj
  unfold upd
  by_cases e : j = ms.length + 1
  · rw [if_pos e, e]
    unfold cfL
    rw [if_neg (by omega), if_neg (by omega)]
    show _ = nI (if ms.length + 1 - 1 = ms.length then x else _)
    rw [if_pos (by omega)]
  · rw [if_neg e, h j (by omega)]
    unfold cfL
    by_cases e0 : j = 0
    · rw [if_pos e0, if_pos e0]
    · rw [if_neg e0, if_neg e0]
      by_cases e1 : j = 1
      · rw [if_pos e1, if_pos e1]
      · rw [if_neg e1, if_neg e1]
        show _ = nI (if j - 1 = ms.length then x else atL ms (j - 1))
        rw [if_neg (by omega)]
theorem okC_up {len k : Nat} {ms : List Nat} {mf : Nat → Int32} {v : Int32} (h : okC len ms mf) (hk : ms.length + 1 ≤ k) : okC len ms (upd mf k v) := fun j hj => by
  unfold upd
  rw [if_neg (by omega)]
  exact h j hj
theorem okC_t {len x : Nat} {t : List Nat} {mf : Nat → Int32} (h : okC len (x :: t) mf) : okC len t mf := fun j hj => by
  rw [h j (by simp only [List.length_cons]; omega)]
  unfold cfL
  by_cases e0 : j = 0
  · rw [if_pos e0, if_pos e0]
  · rw [if_neg e0, if_neg e0]
    by_cases e1 : j = 1
    · rw [if_pos e1, if_pos e1]
    · rw [if_neg e1, if_neg e1]
      show nI (if j - 1 = t.length then x else atL t (j - 1)) = _
      rw [if_neg (by omega)]
theorem at0_c {x : Nat} {t : List Nat} (h : atL t 0 = 0) (hx : t = [] → x = 0) : atL (x :: t) 0 = 0 := by
  show (if 0 = t.length then x else atL t 0) = 0
  by_cases e : 0 = t.length
  · rw [if_pos e]
    exact hx (List.length_eq_zero_iff.mp e.symm)
  · rw [if_neg e]
    exact h
theorem at0_t {x : Nat} {t : List Nat} (h : atL (x :: t) 0 = 0) : atL t 0 = 0 := by
  cases t with
  | nil => rfl
  | cons y s =>
    have h2 : (if 0 = (y :: s).length then x else atL (y :: s) 0) = 0 := h
    rw [if_neg (by simp)] at h2
    exact h2
def coC (len n : Nat) : List (Nat × Nat) → RAcc → RAcc
  | [], a => a
  | (last, nxt) :: t, a => coC len n t (rLoop (cB (cT len n (n - 2 - (t.length + 1))) len n (n - 2 - (t.length + 1)) last (bkL (last :: msO t)) (lcL len (last :: msO t)) (mcL len (last :: msO t)) (last :: msO t)) (len - nxt) nxt a)
theorem coC_c (len n last nxt : Nat) (t : List (Nat × Nat)) (a : RAcc) : coC len n ((last, nxt) :: t) a = coC len n t (rLoop (cB (cT len n (n - 2 - (t.length + 1))) len n (n - 2 - (t.length + 1)) last (bkL (last :: msO t)) (lcL len (last :: msO t)) (mcL len (last :: msO t)) (last :: msO t)) (len - nxt) nxt a) := rfl
theorem coC_pop {len n last nxt : Nat} {t : List (Nat × Nat)} {a : RAcc} (h : len ≤ nxt) : coC len n ((last, nxt) :: t) a = coC len n t a := by
  rw [coC_c, show len - nxt = 0 by omega]
  rfl
theorem coC_step {len n last mark k : Nat} {t : List (Nat × Nat)} {a : RAcc} (hk : n - 2 - (t.length + 1) = k) (h : mark < len) : coC len n ((last, mark) :: t) a = coC len n ((last, mark + 1) :: t) (cB (cT len n k) len n k last (bkL (last :: msO t)) (lcL len (last :: msO t)) (mcL len (last :: msO t)) (last :: msO t) mark a) := by
  rw [coC_c, coC_c, hk, show len - mark = (len - (mark + 1)) + 1 by omega]
  rfl
theorem coC_push {len n last nxt k mark : Nat} {t : List (Nat × Nat)} {a : RAcc} (hk : n - 2 - (t.length + 1) = k + 1) : coC len n ((mark, mark + 1) :: (last, nxt) :: t) a = coC len n ((last, nxt) :: t) (cT len n (k + 1) mark (bkL (last :: msO t) * 2 ^ (mark - last) ||| 1) (lcL len (mark :: last :: msO t)) (mcL len (last :: msO t) ||| 2 ^ mark) (mark :: last :: msO t) a) := by
  have h2 : n - 2 - (((last, nxt) :: t).length + 1) = k := by simp only [List.length_cons]; omega
  rw [coC_c, h2]
  rfl
theorem cB_no {go : Nat → Nat → Nat → Nat → List Nat → RAcc → RAcc} {len sz k last back lens marks mark : Nat} {ms : List Nat} {a : RAcc} (h : ¬ len - pcQ (lens ||| back * 2 ^ (mark - last) ||| 2 ^ (len - mark)) ≤ k * (sz - k) + k * (k - 1) / 2) : cB go len sz k last back lens marks ms mark a = rTry a := by
  unfold cB
  rw [if_neg h]
theorem cB_end {go : Nat → Nat → Nat → Nat → List Nat → RAcc → RAcc} {len sz last back lens marks mark k : Nat} {ms : List Nat} {a : RAcc} (hk : k = 0) (h : len - pcQ (lens ||| back * 2 ^ (mark - last) ||| 2 ^ (len - mark)) ≤ k * (sz - k) + k * (k - 1) / 2) : cB go len sz k last back lens marks ms mark a = rAdd (rTry a) (marks ||| 2 ^ mark) (mark :: ms) := by
  unfold cB
  rw [if_pos h, if_pos hk]
theorem cB_go {go : Nat → Nat → Nat → Nat → List Nat → RAcc → RAcc} {len sz k last back lens marks mark : Nat} {ms : List Nat} {a : RAcc} (hk : k ≠ 0) (h : len - pcQ (lens ||| back * 2 ^ (mark - last) ||| 2 ^ (len - mark)) ≤ k * (sz - k) + k * (k - 1) / 2) : cB go len sz k last back lens marks ms mark a = go mark (back * 2 ^ (mark - last) ||| 1) (lens ||| back * 2 ^ (mark - last) ||| 2 ^ (len - mark)) (marks ||| 2 ^ mark) (mark :: ms) (rTry a) := by
  unfold cB
  rw [if_pos h, if_neg hk]
theorem coC_no {len n last mark k : Nat} {t : List (Nat × Nat)} {a : RAcc} (hk : n - 2 - (t.length + 1) = k) (h : mark < len) (hz : ¬ len - pcQ (lcL len (mark :: last :: msO t)) ≤ k * (n - k) + k * (k - 1) / 2) : coC len n ((last, mark) :: t) a = coC len n ((last, mark + 1) :: t) (rTry a) := by
  have hz2 : ¬ len - pcQ (lcL len (last :: msO t) ||| bkL (last :: msO t) * 2 ^ (mark - last) ||| 2 ^ (len - mark)) ≤ k * (n - k) + k * (k - 1) / 2 := hz
  rw [coC_step hk h, cB_no hz2]
theorem coC_end {len n last mark k : Nat} {t : List (Nat × Nat)} {a : RAcc} (hk : n - 2 - (t.length + 1) = k) (h : mark < len) (h0 : k = 0) (hz : len - pcQ (lcL len (mark :: last :: msO t)) ≤ k * (n - k) + k * (k - 1) / 2) : coC len n ((last, mark) :: t) a = coC len n ((last, mark + 1) :: t) (rAdd (rTry a) (mcL len (last :: msO t) ||| 2 ^ mark) (mark :: last :: msO t)) := by
  have hz2 : len - pcQ (lcL len (last :: msO t) ||| bkL (last :: msO t) * 2 ^ (mark - last) ||| 2 ^ (len - mark)) ≤ k * (n - k) + k * (k - 1) / 2 := hz
  rw [coC_step hk h, cB_end h0 hz2]
theorem coC_go {len n last mark k : Nat} {t : List (Nat × Nat)} {a : RAcc} (hk : n - 2 - (t.length + 1) = k) (h : mark < len) (h0 : k ≠ 0) (hz : len - pcQ (lcL len (mark :: last :: msO t)) ≤ k * (n - k) + k * (k - 1) / 2) : coC len n ((last, mark) :: t) a = coC len n ((mark, mark + 1) :: (last, mark + 1) :: t) (rTry a) := by
  obtain ⟨k, rfl⟩ : ∃ j, k = j + 1 := ⟨k - 1, by omega⟩
  have hz2 : len - pcQ (lcL len (last :: msO t) ||| bkL (last :: msO t) * 2 ^ (mark - last) ||| 2 ^ (len - mark)) ≤ (k + 1) * (n - (k + 1)) + (k + 1) * (k + 1 - 1) / 2 := hz
  rw [coC_step hk h, cB_go h0 hz2, coC_push hk]
  rfl
theorem coC_0 {len n : Nat} (hn : 2 < n) (a : RAcc) : coC len n [(0, 1)] a = cT len n (n - 2) 0 1 (2 ^ len) (1 ||| 2 ^ len) [0] a := by
  obtain ⟨k, hk⟩ : ∃ k, n - 2 = k + 1 := ⟨n - 3, by omega⟩
  have h2 : n - 2 - (([] : List (Nat × Nat)).length + 1) = k := by simp only [List.length_nil]; omega
  have e1 : lcL len [0] = 2 ^ len := by
    show 0 ||| 0 * 2 ^ (0 - 0) ||| 2 ^ (len - 0) = 2 ^ len
    simp
  have e2 : mcL len [0] = 1 ||| 2 ^ len := by
    show 2 ^ len ||| 2 ^ 0 = 1 ||| 2 ^ len
    rw [Nat.or_comm]
  rw [coC_c, h2, hk]
  show coC len n [] (rLoop (cB (cT len n k) len n k 0 (bkL [0]) (lcL len [0]) (mcL len [0]) [0]) (len - 1) 1 a) = _
  rw [e1, e2]
  rfl
def okT2 (nf : Nat → Int32) (st : List (Nat × Nat)) : Prop := okT (fun j => nf (j + 1)) st
theorem sh_upd (nf : Nat → Int32) (d : Nat) (v : Int32) : (fun j => upd nf (d + 1) v (j + 1)) = upd (fun j => nf (j + 1)) d v := by
  funext j
  unfold upd
  by_cases h : j = d
  · rw [if_pos (by omega), if_pos h]
  · rw [if_neg (by omega), if_neg h]
theorem okT2_n {nf : Nat → Int32} {last nxt y d : Nat} {t : List (Nat × Nat)} (h : okT2 nf ((last, nxt) :: t)) (hd : d = t.length + 1 + 1) (h1 : last < y) (h2 : y ≤ 61) : okT2 (upd nf d (nI y)) ((last, y) :: t) := by
  subst hd
  unfold okT2
  rw [sh_upd]
  exact okT_n h rfl h1 h2
theorem okT2_p {nf : Nat → Int32} {x y d : Nat} {st : List (Nat × Nat)} (h : okT2 nf st) (hd : d = st.length + 1 + 1) (h1 : x < y) (h2 : y ≤ 61) : okT2 (upd nf d (nI y)) ((x, y) :: st) := by
  subst hd
  unfold okT2
  rw [sh_upd]
  exact okT_p h rfl h1 h2
/-- what is noted of a cover -/
def cvf (len n : Nat) (mf : Nat → Int32) (k : Nat) : Int32 := if k = 0 then 0 else if k = n - 1 then nI len else mf (k + 1)
theorem nc_end {f rkv : Nat → Int32} {len n k nb : Nat} (hk : k ≤ n) (hz : k ≠ 0 → nI nb = 0) (hn : 1 ≤ n) (h : k = n ∨ ¬ nI nb = 0) : cpy f rkv (12 * len) k = if nI nb = 0 then cpy f rkv (12 * len) n else rkv := by
  by_cases h0 : nI nb = 0
  · rw [if_pos h0]
    rcases h with rfl | h
    · rfl
    · exact absurd h0 h
  · rw [if_neg h0, show k = 0 by (rcases Nat.eq_zero_or_pos k with q | q; (· exact q); exact absurd (hz (by omega)) h0), cpy_0]
def okRC (len : Nat) (a : RAcc) (rk0 rk : Nat → Int32) : Prop := (∀ i, i < 12 * len ∨ 12 * len + 12 ≤ i → rk i = rk0 i) ∧ (nI a.1 ≠ 0 → okK (len :: a.2.2.2) rk (12 * len))
theorem okRC_try {len : Nat} {a : RAcc} {rk0 rk : Nat → Int32} (h : okRC len a rk0 rk) : okRC len (rTry a) rk0 rk := h
theorem okRC_add {len n : Nat} {a : RAcc} {rk0 rk mf : Nat → Int32} {x : Nat} {xs : List Nat} (h : okRC len a rk0 rk) (hn : n ≤ 12) (hn2 : 2 ≤ n) (hl : xs.length + 1 = n) (h0 : atL xs 0 = 0) (hm : okC len xs mf) : okRC len (rAdd a x xs) rk0 (if nI a.1 = 0 then cpy (cvf len n mf) rk (12 * len) n else rk) := by
  refine ⟨fun i hi => ?_, fun _ => ?_⟩
  · by_cases h0 : nI a.1 = 0
    · rw [if_pos h0, cpy_out (by omega)]
      exact h.1 i hi
    · rw [if_neg h0]
      exact h.1 i hi
  · show okK (len :: (if nI a.1 = 0 then xs else a.2.2.2)) _ _
    by_cases h9 : nI a.1 = 0
    · rw [if_pos h9, if_pos h9]
      intro j hj
      simp only [List.length_cons] at hj
      rw [cpy_in (by omega)]
      unfold cvf
      show _ = nI (if j = xs.length then len else atL xs j)
      by_cases e0 : j = 0
      · rw [if_pos e0, if_neg (by omega), e0, h0]; rfl
      · rw [if_neg e0]
        by_cases e1 : j = n - 1
        · rw [if_pos e1, if_pos (by omega)]
        · rw [if_neg e1, if_neg (by omega), hm (j + 1) (by omega)]
          unfold cfL
          rw [if_neg (by omega), if_neg (by omega), Nat.add_sub_cancel]
    · rw [if_neg h9, if_neg h9]
      exact h.2 h9
theorem okC_0 {len : Nat} (mf : Nat → Int32) : okC len [0] (upd (upd mf 0 (nI 0)) 1 (nI len)) := fun j hj => by
  simp only [List.length_cons, List.length_nil] at hj
  unfold upd cfL
  by_cases e1 : j = 1
  · rw [if_pos e1, if_neg (by omega), if_pos e1]
  · rw [if_neg e1, if_pos (by omega), if_pos (by omega)]
theorem lc_0 (len : Nat) : lcL len [0] = 2 ^ len := by
  show 0 ||| 0 * 2 ^ (0 - 0) ||| 2 ^ (len - 0) = 2 ^ len
  simp
theorem srt_0 : srt [0] := ⟨fun y h => (by cases h), trivial⟩
theorem cOne_3 {len n : Nat} (hn : 2 < n) (a : RAcc) : coC len n [(0, 1)] a = cOne len n a := by
  rw [coC_0 hn]
  unfold cOne
  rw [if_pos hn]
theorem cOne_y {len : Nat} {a : RAcc} (h : len - pcQ (2 ^ len) = 0) : cOne len 2 a = rAdd a (1 ||| 2 ^ len) [0] := by
  unfold cOne
  rw [if_neg (by decide), if_pos h]
theorem cOne_n {len : Nat} {a : RAcc} (h : ¬ len - pcQ (2 ^ len) = 0) : cOne len 2 a = a := by
  unfold cOne
  rw [if_neg (by decide), if_neg h]
theorem cf_le {len : Nat} {ms : List Nat} (hl : ∀ y ∈ ms, y < len) (h : len ≤ 60) (j : Nat) (hj : j < ms.length + 1) : cfL len ms j ≤ 60 := by
  unfold cfL
  split
  · omega
  · split
    · exact h
    · have := hl _ (at_mem ms (j - 1) (by omega))
      omega
/-! What is known of all that is found, as lists. -/
def LT (kd n : Nat) : List Nat := if kd = 0 then (rRes n).2.2.2.2 else n :: (cRes n).2.2.2.2
def okN (kd n : Nat) : Prop := (kd = 0 ∧ 2 ≤ n ∧ n ≤ 7) ∨ (kd = 1 ∧ 1 ≤ n ∧ n ≤ 20)
def ltOk (kd n sz mask : Nat) (l : List Nat) : Bool := decide (l.length ≤ 12) && (decide (pcN 64 mask = l.length) && (decide (mask < 2 ^ 61) && (decide ((kd = 0 → l.length = n) ∧ (kd ≠ 0 → l.length = sz)) && (decide ((kd = 0 → spN mask = sz) ∧ (kd ≠ 0 → spN mask = n)) && (al (fun j => decide (mkA mask (nI j) = nI (atL l j))) l.length && (l.all (fun y => decide (y ≤ spN mask)) && (al (fun q => decide (mask.testBit q = decide (q ∈ l))) 61)))))))
theorem ltOk_r {n : Nat} (h1 : 2 ≤ n) (h2 : n ≤ 7) : ltOk 0 n (rRes n).1 (rRes n).2.2.2.1 (rRes n).2.2.2.2 = true := by
  have h : n = 2 ∨ n = 3 ∨ n = 4 ∨ n = 5 ∨ n = 6 ∨ n = 7 := by omega
  rcases h with rfl | rfl | rfl | rfl | rfl | rfl
  · rw [rTab_2]; decide +kernel
  · rw [rTab_3]; decide +kernel
  · rw [rTab_4]; decide +kernel
  · rw [rTab_5]; decide +kernel
  · rw [rTab_6]; decide +kernel
  · rw [rTab_7]; decide +kernel
theorem ltOk_c {n : Nat} (h1 : 1 ≤ n) (h2 : n ≤ 20) : ltOk 1 n (cRes n).1 (cRes n).2.2.2.1 (n :: (cRes n).2.2.2.2) = true := by
  have h : n = 1 ∨ n = 2 ∨ n = 3 ∨ n = 4 ∨ n = 5 ∨ n = 6 ∨ n = 7 ∨ n = 8 ∨ n = 9 ∨ n = 10 ∨ n = 11 ∨ n = 12 ∨ n = 13 ∨ n = 14 ∨ n = 15 ∨ n = 16 ∨ n = 17 ∨ n = 18 ∨ n = 19 ∨ n = 20 := by omega
  rcases h with rfl | rfl | rfl | rfl | rfl | rfl | rfl | rfl | rfl | rfl | rfl | rfl | rfl | rfl | rfl | rfl | rfl | rfl | rfl | rfl
  · rw [cTab_1]; decide +kernel
  · rw [cTab_2]; decide +kernel
  · rw [cTab_3]; decide +kernel
  · rw [cTab_4]; decide +kernel
  · rw [cTab_5]; decide +kernel
  · rw [cTab_6]; decide +kernel
  · rw [cTab_7]; decide +kernel
  · rw [cTab_8]; decide +kernel
  · rw [cTab_9]; decide +kernel
  · rw [cTab_10]; decide +kernel
  · rw [cTab_11]; decide +kernel
  · rw [cTab_12]; decide +kernel
  · rw [cTab_13]; decide +kernel
  · rw [cTab_14]; decide +kernel
  · rw [cTab_15]; decide +kernel
  · rw [cTab_16]; decide +kernel
  · rw [cTab_17]; decide +kernel
  · rw [cTab_18]; decide +kernel
  · rw [cTab_19]; decide +kernel
  · rw [cTab_20]; decide +kernel
theorem lt_all {kd n : Nat} (h : okN kd n) : ltOk kd n (resT kd n).1 (resT kd n).2.2.2 (LT kd n) = true := by
  rcases h with ⟨rfl, h1, h2⟩ | ⟨rfl, h1, h2⟩
  · exact ltOk_r h1 h2
  · exact ltOk_c h1 h2
theorem cc_pos {n : Nat} (h1 : 1 ≤ n) (h2 : n ≤ 20) : 0 < (cRes n).2.1 ∧ (cRes n).2.1 < 2 ^ 31 := by
  have h := resOk_c n h1 h2
  rw [res_c] at h
  unfold resOk at h
  simp only [Bool.and_eq_true, decide_eq_true_eq] at h
  omega
theorem lt_parts {kd n : Nat} (h : okN kd n) : (LT kd n).length ≤ 12 ∧ pcN 64 (resT kd n).2.2.2 = (LT kd n).length ∧ (resT kd n).2.2.2 < 2 ^ 61 ∧ ((kd = 0 → (LT kd n).length = n) ∧ (kd ≠ 0 → (LT kd n).length = (resT kd n).1)) ∧ ((kd = 0 → spN (resT kd n).2.2.2 = (resT kd n).1) ∧ (kd ≠ 0 → spN (resT kd n).2.2.2 = n)) ∧ (∀ j, j < (LT kd n).length → mkA (resT kd n).2.2.2 (nI j) = nI (atL (LT kd n) j)) ∧ (∀ y ∈ LT kd n, y ≤ spN (resT kd n).2.2.2) ∧ (∀ q, q < 61 → (resT kd n).2.2.2.testBit q = decide (q ∈ LT kd n)) := by
  have h2 := lt_all h
  unfold ltOk at h2
  simp only [Bool.and_eq_true, decide_eq_true_eq, al_t, List.all_eq_true] at h2
  exact h2
theorem mkA_out {m j : Nat} (hm : m < 2 ^ 61) (h : pcN 64 m ≤ j) (hj : j < 2 ^ 31) : mkA m (nI j) = -6 := mkA_miss (fun q hq hb e => by
  have h1 : fb_ct (fun k => m.testBit k) (q + 1) ≤ fb_ct (fun k => m.testBit k) 64 := fb_ct_mono _ (by omega)
  have h2 : fb_ct (fun k => m.testBit k) (q + 1) = fb_ct (fun k => m.testBit k) q + 1 := by rw [fb_ct_succ]; simp [hb]
  have h3 := pcN_le 64 m
  have h4 : fb_ct (fun k => m.testBit k) q = j := i_eq (by unfold pcN at h3; omega) hj e
  unfold pcN at h
  omega)
def KR (kd kn : Nat) (rk : Nat → Int32) : Prop := ∀ n, okN kd n → kn.testBit n = true → okK (LT kd n) rk (12 * n)
theorem KR_up {kd kn n : Nat} {rk rk2 : Nat → Int32} (h : KR kd kn rk) (h1 : kn.testBit n = true → rk2 = rk) (h2 : kn.testBit n = false → (∀ i, i < 12 * n ∨ 12 * n + 12 ≤ i → rk2 i = rk i) ∧ okK (LT kd n) rk2 (12 * n)) : KR kd (kn ||| 2 ^ n) rk2 := by
  intro i hi hb
  rw [or_tb] at hb
  cases hk : kn.testBit n with
  | true =>
    rw [h1 hk]
    refine h i hi ?_
    by_cases e : i = n
    · rw [e]; exact hk
    · simpa [e] using hb
  | false =>
    by_cases e : i = n
    · rw [e]; exact (h2 hk).2
    · have h3 := h i hi (by simpa [e] using hb)
      intro j hj
      have := (lt_parts hi).1
      rw [(h2 hk).1 (12 * i + j) (by omega)]
      exact h3 j hj
theorem ans_mark {kd n j : Nat} {rk : Nat → Int32} (h : okN kd n) (hK : okK (LT kd n) rk (12 * n)) (hj : j < (LT kd n).length) : rk (12 * n + j) = mkA (resT kd n).2.2.2 (nI j) := by
  rw [hK j hj, (lt_parts h).2.2.2.2.2.1 j hj]
theorem ans_none {kd n j : Nat} (h : okN kd n) (hj : (LT kd n).length ≤ j) (hj2 : j < 2 ^ 31) : (-6 : Int32) = mkA (resT kd n).2.2.2 (nI j) := by
  have := lt_parts h
  rw [mkA_out this.2.2.1 (by omega) hj2]
theorem ans_10 {kd n w : Nat} (h10 : 10 ≤ w) (hw : w < 2 ^ 31) : ansR kd n (nI w) = mkA (resT kd n).2.2.2 (nI (w - 10)) := by
  have a0 : ¬ nI w = 0 := fun q => by have := i_eq (b := 0) hw (by decide) q; omega
  have a1 : ¬ nI w = 1 := fun q => by have := i_eq (b := 1) hw (by decide) q; omega
  have a2 : ¬ nI w = 2 := fun q => by have := i_eq (b := 2) hw (by decide) q; omega
  unfold ansR fnd
  rw [if_neg a0, if_neg a1, if_neg a2]
  congr 1
  exact pk_sub (b := 10) h10
theorem ans_0 (kd n : Nat) {v : Int32} (h : v = 0) : nI (resT kd n).1 = ansR kd n v := by
  unfold ansR fnd
  rw [if_pos h]
theorem ans_1 (kd n : Nat) {v : Int32} (h0 : ¬ v = 0) (h : v = 1) : nI (resT kd n).2.1 = ansR kd n v := by
  unfold ansR fnd
  rw [if_neg h0, if_pos h]
theorem ans_2 (kd n : Nat) {v : Int32} (ha : inA v = true) (h10 : v < 10) (h0 : ¬ v = 0) (h1 : ¬ v = 1) : nI (resT kd n).2.2.1 = ansR kd n v := by
  have h2 : v = 2 := by
    unfold inA at ha
    rw [Bool.or_eq_true, Bool.and_eq_true, decide_eq_true_eq, decide_eq_true_eq, decide_eq_true_eq] at ha
    rw [fa_eq] at h0 h1 ⊢
    rw [fa_le, fa_le, fa_le] at ha
    rw [fa_lt] at h10
    have e0 : (0 : Int32).toInt = 0 := by decide
    have e1 : (1 : Int32).toInt = 1 := by decide
    have e2 : (2 : Int32).toInt = 2 := by decide
    have e10 : (10 : Int32).toInt = 10 := by decide
    omega
  unfold ansR fnd
  rw [if_neg h0, if_neg h1, if_pos h2]
theorem ge10 {v : Int32} (h : ¬ v < 10) : ∃ w, 10 ≤ w ∧ w < 2 ^ 31 ∧ v = nI w := by
  have h0 : ¬ v < 0 := fun q => by
    apply h
    rw [fa_lt] at q ⊢
    have e0 : (0 : Int32).toInt = 0 := by decide
    have e10 : (10 : Int32).toInt = 10 := by decide
    omega
  obtain ⟨j, hj, rfl⟩ := nI_of h0
  exact ⟨j, i_nlt (b := 10) hj (by decide) h, hj, rfl⟩
