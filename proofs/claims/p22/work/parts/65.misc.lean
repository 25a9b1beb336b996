/-! What the law asks of the answers. -/
section TD
variable {er sk : Nat → Int32} {cn kr kc : Nat} {t1 t2 un tp : Int32}
theorem td_0 : tdR er sk cn kr kc t1 t2 un tp (nI 0) = nI cn := by unfold tdR; rw [if_neg (by decide), if_neg (by decide), if_pos (by decide)]
theorem td_1 : tdR er sk cn kr kc t1 t2 un tp (nI 1) = nI (pcN 32 kr) + nI (pcN 32 kc) := by unfold tdR; rw [if_neg (by decide), if_neg (by decide), if_neg (by decide), if_pos (by decide)]
theorem td_2 : tdR er sk cn kr kc t1 t2 un tp (nI 2) = t1 + t2 := by unfold tdR; rw [if_neg (by decide), if_neg (by decide), if_neg (by decide), if_neg (by decide), if_pos (by decide)]
theorem td_3 : tdR er sk cn kr kc t1 t2 un tp (nI 3) = un := by unfold tdR; rw [if_neg (by decide), if_neg (by decide), if_neg (by decide), if_neg (by decide), if_neg (by decide), if_pos (by decide)]
theorem td_4 : tdR er sk cn kr kc t1 t2 un tp (nI 4) = nI kr := by unfold tdR; rw [if_neg (by decide), if_neg (by decide), if_neg (by decide), if_neg (by decide), if_neg (by decide), if_neg (by decide), if_pos (by decide)]
theorem td_5 : tdR er sk cn kr kc t1 t2 un tp (nI 5) = nI kc := by unfold tdR; rw [if_neg (by decide), if_neg (by decide), if_neg (by decide), if_neg (by decide), if_neg (by decide), if_neg (by decide), if_neg (by decide), if_pos (by decide)]
theorem td_6 : tdR er sk cn kr kc t1 t2 un tp (nI 6) = tp := by unfold tdR; rw [if_neg (by decide), if_neg (by decide), if_neg (by decide), if_neg (by decide), if_neg (by decide), if_neg (by decide), if_neg (by decide), if_neg (by decide), if_pos (by decide)]
theorem td_e {k : Nat} (hk : k ≤ 60) : tdR er sk cn kr kc t1 t2 un tp (nI (100 + k)) = er k := by
  have e : nI (100 + k) - 100 = nI k := by
    rw [show (100 : Int32) = nI 100 from rfl, pk_sub (by omega)]
    congr 1
    omega
  unfold tdR
  rw [e, if_pos (inS_t hk), erX_nI hk]
end TD
theorem inP_nI {c : Nat} (h : c < 360) : inP (nI c) = true := by
  unfold inP
  rw [decide_eq_true (nI_pos' (by omega)), decide_eq_true (show nI c < 360 from nI_lt (b := 360) h (by decide))]
  rfl
theorem inA_hi : ∀ k, k < 40 → 10 ≤ k → inA (nI k) = true := by decide
theorem fa_0 {m : Nat} : faR m (nI 0) = nI (pcN 64 m) := by unfold faR; rw [if_pos (by decide)]
theorem fa_1 {m : Nat} : faR m (nI 1) = nI (spN m) := by unfold faR; rw [if_neg (by decide), if_pos (by decide)]
theorem fa_2 {m : Nat} : faR m (nI 2) = nI (reN m) := by unfold faR; rw [if_neg (by decide), if_neg (by decide), if_pos (by decide)]
/-- skies: the new ones up to d, behind it those that were -/
def sF (f g : Nat → Nat) (d j : Nat) : Nat := if 1 ≤ j ∧ j < d then f j else g j
theorem sF_s {f g : Nat → Nat} {d : Nat} (hd : 1 ≤ d) : upd (fun x => nI (sF f g d x)) d (nI (f d)) = fun x => nI (sF f g (d + 1) x) := by
  funext x
  unfold upd sF
  by_cases e : x = d
  · rw [if_pos e, if_pos (by omega), e]
  · rw [if_neg e]
    show nI (if 1 ≤ x ∧ x < d then f x else g x) = _
    by_cases c : 1 ≤ x ∧ x < d
    · rw [if_pos c, if_pos (by omega)]
    · rw [if_neg c, if_neg (by omega)]
theorem sF_at {f g : Nat → Nat} {d : Nat} : sF f g d d = g d := by unfold sF; rw [if_neg (by omega)]
theorem sF_in {f g : Nat → Nat} {d j : Nat} (h1 : 1 ≤ j) (h2 : j < d) : sF f g d j = f j := by unfold sF; rw [if_pos ⟨h1, h2⟩]
theorem sF_lt {f g : Nat → Nat} {d : Nat} (h1 : ∀ x, f x < 360) (h2 : ∀ x, g x < 360) (j : Nat) : sF f g d j < 360 := by
  unfold sF
  split
  · exact h1 j
  · exact h2 j
theorem sF_0 {f g : Nat → Nat} {d : Nat} (hd : d ≤ 1) : sF f g d = g := by
  funext j
  unfold sF
  rw [if_neg (by omega)]
theorem hE_at {m n : Nat} {X : Nat → Nat} {v : Nat → Int32} {e0 : Nat → Int32} (h : MK m n X) {j : Nat} (hj : j < n) : ∀ k, k ≤ n → hE X v e0 k (X j) = if j < k then v j else e0 (X j)
  | 0, _ => by rw [if_neg (Nat.not_lt_zero j)]; rfl
  | k + 1, hk => by
    show upd (hE X v e0 k) (X k) (v k) (X j) = _
    by_cases e : j = k
    · rw [e, upd_at, if_pos (Nat.lt_succ_self k)]
    · rw [fa_upd_ne (fun q => e (h.inj hj (by omega) q)), hE_at h hj k (by omega)]
      by_cases c : j < k
      · rw [if_pos c, if_pos (by omega)]
      · rw [if_neg c, if_neg (by omega)]
def lastC : Nat → Nat
  | 0 => 0
  | j + 1 => dueC (j + 1)
theorem rul_q : ∀ n, n < 8 → 2 ≤ n → fq0 n (nI 0) = nI (dueR n) ∧ fq0 n (nI 10) = nI 0 ∧ fq0 n (nI (9 + n)) = nI (dueR n) ∧ fq0 n (nI (10 + n)) = -6 ∧ fq0 n (nI 1) - fq0 n (nI 1) / nI 2 * nI 2 = nI (if n = 2 then 1 else 0) ∧ fq0 n (nI 2) = nI (tb0 n).2.2.1 := by decide +kernel
theorem rul_v : fq0 4 (nI 1) = nI 2 ∧ fq0 4 (nI 11) = nI 1 ∧ fq0 4 (nI 12) = nI 4 ∧ fq0 5 (nI 1) = nI 4 ∧ fq0 6 (nI 1) = nI 8 ∧ fq0 7 (nI 1) = nI 10 := by decide +kernel
theorem cov_q : ∀ n, n < 21 → 1 ≤ n → fq1 n (nI 0) = nI (dueC n) ∧ fq1 n (nI 10) = nI 0 ∧ fq1 n (nI (9 + dueC n)) = nI n ∧ fq1 n (nI (10 + dueC n)) = -6 ∧ ¬ fq1 n (nI 1) < nI 1 ∧ fq1 n (nI 2) = nI (tb1 n).2.2.1 ∧ lastC (n - 1) ≤ dueC n ∧ 2 ≤ dueC n ∧ dueC n ≤ 8 := by decide +kernel
theorem krF_q : ∀ fr, fr < 6 → ∀ i, i < 12 → ttR (krF fr (i + 1)) = ttR (krF fr i) + (1 - krF fr i / 2 ^ nnF fr i % 2) * (tb0 (nnF fr i)).2.2.1 ∧ pcN 32 (krF fr (i + 1)) = (if i < 6 then i + 1 else 6) ∧ krF fr (i + 1) ||| 2 ^ nnF fr i = krF fr (i + 1) ∧ ttR (krF fr i) < 100000 := by decide +kernel
theorem kcF_q : ∀ i, i < 20 → ttC (kcF i) < 200000 := by decide +kernel
def fK (g : Nat → Nat → Nat → Int32) (i j : Nat) : Nat → Int32 → Int32
  | 0, y => y
  | k + 1, y => nI 31 * fK g i j k y + g i j k
def fJ (g : Nat → Nat → Nat → Int32) (n i : Nat) : Nat → Int32 → Int32
  | 0, y => y
  | j + 1, y => fK g i j n (fJ g n i j y)
def fI (g : Nat → Nat → Nat → Int32) (n : Nat) : Nat → Int32 → Int32
  | 0, y => y
  | i + 1, y => fJ g n i n (fI g n i y)
/-- the first image, as the law's loop keeps it -/
def imF (im : Nat × (Nat → Int32) × (Nat → Int32) × Int32) (m : Nat) (er sk : Nat → Int32) : Nat → Nat × (Nat → Int32) × (Nat → Int32) × Int32
  | 0 => im
  | _ + 1 => (m, er, sk, 1)
theorem imF_or {im : Nat × (Nat → Int32) × (Nat → Int32) × Int32} {m : Nat} {er sk : Nat → Int32} (h : im.2.2.2 = 0) : ∀ i, (imF im m er sk i).2.2.2 ||| 1 = 1
  | 0 => by show im.2.2.2 ||| 1 = 1; rw [h]; decide
  | _ + 1 => by show (1 : Int32) ||| 1 = 1; decide
theorem ph_no {m : Nat} {er sk : Nat → Int32} {k : Nat} {y : Int32} (hk : k ≤ 60) (h : m.testBit k = false) : phR m er sk (nI k) y = -1 := by
  unfold phR
  rw [if_neg (fun q => by rw [stn_nI hk, h] at q; exact absurd q.1 (by decide))]
theorem hM_same {m n : Nat} {X : Nat → Nat} {v : Nat → Int32} (h : MK m n X) (hv : ∀ j, v j ≠ -6) : ∀ k, k ≤ n → hM X v m k = m
  | 0, _ => rfl
  | k + 1, hk => by
    show bcm (hM X v m k) (X k) (v k) = m
    rw [hM_same h hv k (by omega)]
    exact bcm_same (h.tb (by omega)) (hv k)
theorem nI_n6 {k : Nat} (h : k < 2 ^ 31) : nI k ≠ -6 := fun e => by
  have := nI_pos h
  rw [e] at this
  exact absurd this (by decide)
/-- the dishes lifted one by one -/
theorem hM_MK {m n : Nat} {X S : Nat → Nat} {v : Nat → Int32} (h : MK m n X) (hS : ∀ k, k < n → S k = X k) (hv : ∀ k, k < n → v k = -6) : ∀ k r, k + r = n → MK (hM S v m k) r (fun j => X (j + k))
  | 0, r, e => by rw [show r = n by omega]; exact h
  | k + 1, r, e => by
    have h1 := (hM_MK h hS hv k (r + 1) (by omega)).drop
    have e1 : X (0 + k) = S k := by rw [hS k (by omega), Nat.zero_add]
    have h2 : bcm (hM S v m k) (X (0 + k)) (-6) = hM S v m (k + 1) := by
      show _ = bcm (hM S v m k) (S k) (v k)
      rw [e1, hv k (by omega)]
    rw [← h2]
    have h3 : (fun j => X (j + 1 + k)) = fun j => X (j + (k + 1)) := by
      funext j
      congr 1
      omega
    rw [← h3]
    exact h1
theorem hM_row {m n at0 : Nat} {S : Nat → Nat} {v : Nat → Int32} (hat : at0 < 49) (h0 : hM S v m n = 0) (hS : ∀ i, S (n + i) = at0 + i) (hv : ∀ i, v (n + i) = 0) : ∀ i, i < 13 → hM S v m (n + i) = rw12 i at0
  | 0, _ => by rw [r12_0]; exact h0
  | i + 1, hi => by
    show bcm (hM S v m (n + i)) (S (n + i)) (v (n + i)) = _
    rw [hM_row hat h0 hS hv i (by omega), hS, hv]
    exact (r12_k at0 hat i (by omega)).1
