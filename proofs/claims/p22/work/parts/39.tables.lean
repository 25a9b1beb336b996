/-! What the searches find, as numbers. -/
def tb0 : Nat → Nat × Nat × Nat × Nat
  | 2 => (1, 1, 1, 3)
  | 3 => (3, 2, 4, 11)
  | 4 => (6, 2, 19, 83)
  | 5 => (11, 4, 259, 2579)
  | 6 => (17, 8, 2782, 136211)
  | 7 => (25, 10, 40283, 42206227)
  | _ => (0, 0, 0, 0)
def tb1 : Nat → Nat × Nat × Nat × Nat
  | 1 => (2, 1, 0, 3)
  | 2 => (3, 1, 1, 7)
  | 3 => (3, 2, 2, 11)
  | 4 => (4, 3, 6, 23)
  | 5 => (4, 4, 10, 39)
  | 6 => (4, 2, 13, 83)
  | 7 => (5, 12, 41, 143)
  | 8 => (5, 8, 63, 295)
  | 9 => (5, 4, 86, 583)
  | 10 => (6, 38, 330, 1103)
  | 11 => (6, 30, 385, 2191)
  | 12 => (6, 14, 526, 4367)
  | 13 => (6, 6, 702, 9287)
  | 14 => (7, 130, 3032, 16927)
  | 15 => (7, 80, 3995, 33823)
  | 16 => (7, 32, 4620, 69903)
  | 17 => (7, 12, 6030, 139535)
  | 18 => (8, 500, 27852, 266303)
  | 19 => (8, 326, 37049, 541215)
  | 20 => (8, 150, 45540, 1082399)
  | _ => (0, 0, 0, 0)
theorem resT_r {n : Nat} (h1 : 2 ≤ n) (h2 : n ≤ 7) : resT 0 n = tb0 n := by
  rcases (show n = 2 ∨ n = 3 ∨ n = 4 ∨ n = 5 ∨ n = 6 ∨ n = 7 by omega) with rfl | rfl | rfl | rfl | rfl | rfl
  · unfold resT; rw [if_pos rfl, rTab_2]; rfl
  · unfold resT; rw [if_pos rfl, rTab_3]; rfl
  · unfold resT; rw [if_pos rfl, rTab_4]; rfl
  · unfold resT; rw [if_pos rfl, rTab_5]; rfl
  · unfold resT; rw [if_pos rfl, rTab_6]; rfl
  · unfold resT; rw [if_pos rfl, rTab_7]; rfl
theorem resT_c {n : Nat} (h1 : 1 ≤ n) (h2 : n ≤ 20) : resT 1 n = tb1 n := by
  rcases (show n = 1 ∨ n = 2 ∨ n = 3 ∨ n = 4 ∨ n = 5 ∨ n = 6 ∨ n = 7 ∨ n = 8 ∨ n = 9 ∨ n = 10 ∨ n = 11 ∨ n = 12 ∨ n = 13 ∨ n = 14 ∨ n = 15 ∨ n = 16 ∨ n = 17 ∨ n = 18 ∨ n = 19 ∨ n = 20 by omega) with rfl | rfl | rfl | rfl | rfl | rfl | rfl | rfl | rfl | rfl | rfl | rfl | rfl | rfl | rfl | rfl | rfl | rfl | rfl | rfl
  · unfold resT; rw [if_neg (by decide), cTab_1]; rfl
  · unfold resT; rw [if_neg (by decide), cTab_2]; rfl
  · unfold resT; rw [if_neg (by decide), cTab_3]; rfl
  · unfold resT; rw [if_neg (by decide), cTab_4]; rfl
  · unfold resT; rw [if_neg (by decide), cTab_5]; rfl
  · unfold resT; rw [if_neg (by decide), cTab_6]; rfl
  · unfold resT; rw [if_neg (by decide), cTab_7]; rfl
  · unfold resT; rw [if_neg (by decide), cTab_8]; rfl
  · unfold resT; rw [if_neg (by decide), cTab_9]; rfl
  · unfold resT; rw [if_neg (by decide), cTab_10]; rfl
  · unfold resT; rw [if_neg (by decide), cTab_11]; rfl
  · unfold resT; rw [if_neg (by decide), cTab_12]; rfl
  · unfold resT; rw [if_neg (by decide), cTab_13]; rfl
  · unfold resT; rw [if_neg (by decide), cTab_14]; rfl
  · unfold resT; rw [if_neg (by decide), cTab_15]; rfl
  · unfold resT; rw [if_neg (by decide), cTab_16]; rfl
  · unfold resT; rw [if_neg (by decide), cTab_17]; rfl
  · unfold resT; rw [if_neg (by decide), cTab_18]; rfl
  · unfold resT; rw [if_neg (by decide), cTab_19]; rfl
  · unfold resT; rw [if_neg (by decide), cTab_20]; rfl
def fq0 (n : Nat) (v : Int32) : Int32 := fnd (nI (tb0 n).1) (nI (tb0 n).2.1) (nI (tb0 n).2.2.1) (tb0 n).2.2.2 v
def fq1 (n : Nat) (v : Int32) : Int32 := fnd (nI (tb1 n).1) (nI (tb1 n).2.1) (nI (tb1 n).2.2.1) (tb1 n).2.2.2 v
theorem ans_r {n : Nat} {v : Int32} (h1 : 2 ≤ n) (h2 : n ≤ 7) : ansR 0 n v = fq0 n v := by unfold ansR; rw [resT_r h1 h2]; rfl
theorem ans_c {n : Nat} {v : Int32} (h1 : 1 ≤ n) (h2 : n ≤ 20) : ansR 1 n v = fq1 n v := by unfold ansR; rw [resT_c h1 h2]; rfl
def dueR (n : Nat) : Nat := if n = 2 then 1 else if n = 3 then 3 else if n = 4 then 6 else if n = 5 then 11 else if n = 6 then 17 else 25
def dueC (n : Nat) : Nat := if n < 2 then 2 else if n < 4 then 3 else if n < 7 then 4 else if n < 10 then 5 else if n < 14 then 6 else if n < 18 then 7 else 8
theorem rul_k : ∀ n, n < 8 → 2 ≤ n → fq0 n 0 = nI (dueR n) ∧ fq0 n 10 = 0 ∧ fq0 n (nI (9 + n)) = nI (dueR n) ∧ fq0 n (nI (10 + n)) = -6 ∧ fq0 n 1 - fq0 n 1 / 2 * 2 = (if n = 2 then 1 else 0) ∧ fq0 n 2 = nI (tb0 n).2.2.1 := by decide +kernel
theorem rul_e : fq0 4 1 = 2 ∧ fq0 4 11 = 1 ∧ fq0 4 12 = 4 ∧ fq0 5 1 = 4 ∧ fq0 6 1 = 8 ∧ fq0 7 1 = 10 := by decide +kernel
theorem cov_k : ∀ n, n < 21 → 1 ≤ n → fq1 n 0 = nI (dueC n) ∧ fq1 n 10 = 0 ∧ fq1 n (nI (9 + dueC n)) = nI n ∧ fq1 n (nI (10 + dueC n)) = -6 ∧ ¬ fq1 n 1 < 1 ∧ fq1 n 2 = nI (tb1 n).2.2.1 ∧ dueC (n - 1) ≤ dueC n ∧ (tb1 n).1 = dueC n := by decide +kernel
def ttR (kr : Nat) : Nat := fb_sm (fun i => if kr.testBit i = true then (tb0 i).2.2.1 else 0) 8
def ttC (kc : Nat) : Nat := fb_sm (fun i => if kc.testBit i = true then (tb1 i).2.2.1 else 0) 21
theorem tt_r {kr : Nat} (h0 : kr.testBit 0 = false) (h1 : kr.testBit 1 = false) : ttOf 0 kr 8 = ttR kr := by
  unfold ttOf ttR
  refine fb_sm_cong (fun i hi => ?_)
  unfold fsOf
  by_cases b : kr.testBit i = true
  · rw [if_pos b, if_pos b]
    have i0 : i ≠ 0 := fun z => by rw [z, h0] at b; cases b
    have i1 : i ≠ 1 := fun z => by rw [z, h1] at b; cases b
    rw [resT_r (by omega) (by omega)]
  · rw [if_neg b, if_neg b]
theorem tt_c {kc : Nat} (h0 : kc.testBit 0 = false) : ttOf 1 kc 21 = ttC kc := by
  unfold ttOf ttC
  refine fb_sm_cong (fun i hi => ?_)
  unfold fsOf
  by_cases b : kc.testBit i = true
  · rw [if_pos b, if_pos b]
    have i0 : i ≠ 0 := fun z => by rw [z, h0] at b; cases b
    rw [resT_c (by omega) (by omega)]
  · rw [if_neg b, if_neg b]
def nnF (fr i : Nat) : Nat := 2 + (fr + i * 5) % 6
def krF (fr : Nat) : Nat → Nat
  | 0 => 0
  | i + 1 => krF fr i ||| 2 ^ nnF fr i
def kcF : Nat → Nat
  | 0 => 0
  | i + 1 => kcF i ||| 2 ^ (i + 1)
theorem krF_k : ∀ fr, fr < 6 → ∀ i, i < 13 → krF fr i < 256 ∧ (krF fr i).testBit 0 = false ∧ (krF fr i).testBit 1 = false := by decide +kernel
theorem krF_s : ∀ fr, fr < 6 → ∀ i, i < 12 → ttR (krF fr (i + 1)) = ttR (krF fr i) + (if (krF fr i).testBit (nnF fr i) = true then 0 else (tb0 (nnF fr i)).2.2.1) ∧ pcN 32 (krF fr (i + 1)) = (if i < 6 then i + 1 else 6) ∧ krF fr (i + 1) ||| 2 ^ nnF fr i = krF fr (i + 1) := by decide +kernel
theorem krF_e : ∀ fr, fr < 6 → krF fr 12 = 252 := by decide +kernel
theorem kcF_k : ∀ i, i < 21 → kcF i < 2 ^ 21 ∧ (kcF i).testBit 0 = false := by decide +kernel
theorem kcF_s : ∀ i, i < 20 → ttC (kcF (i + 1)) = ttC (kcF i) + (tb1 (i + 1)).2.2.1 ∧ kcF (i + 1) ||| 2 ^ (i + 1) = kcF (i + 1) := by decide +kernel
theorem kcF_e : kcF 20 = 2097150 ∧ pcN 32 252 + pcN 32 2097150 = 26 ∧ ttR 252 = 43348 ∧ ttC 2097150 = 130283 ∧ pcN 32 0 = 0 ∧ ttC 0 = 0 ∧ ttR 0 = 0 := by decide +kernel
theorem kr_or : (252 : Nat) ||| 2 ^ 4 = 252 ∧ (252 : Nat) ||| 2 ^ 5 = 252 ∧ (252 : Nat) ||| 2 ^ 6 = 252 ∧ (252 : Nat) ||| 2 ^ 7 = 252 := by decide +kernel
theorem kc_or : ∀ n, n < 21 → 1 ≤ n → 2097150 ||| 2 ^ n = 2097150 := by decide +kernel
