/-! What ties the two worlds. -/
/-- the dishes and their errors -/
def dR (m : Nat) (er em : Nat → Int32) : Prop := m < 2 ^ 61 ∧ pcN 64 m ≤ 12 ∧ (∀ j, j ≤ 60 → er j = if m.testBit j = true then em j else -6) ∧ ∀ j, j ≤ 60 → m.testBit j = true → em j ≠ -6
def sR (sk sm : Nat → Int32) : Prop := ∀ j, j ≤ 60 → sm j = sk j
/-- the log, the newest first: a station, and what was there before -/
def lgQ : Nat → List (Nat × Int32) → Prop
  | _, [] => True
  | m, (k, b) :: t => k ≤ 60 ∧ pcN 64 (bcm m k b) ≤ 12 ∧ lgQ (bcm m k b) t
def lgC (st be : Nat → Int32) : Nat → List (Nat × Int32) → Prop
  | _, [] => True
  | nx, (k, b) :: t => st ((nx + 15) % 16) = nI k ∧ be ((nx + 15) % 16) = b ∧ lgC st be ((nx + 15) % 16) t
def lgM (f1 f2 f3 : Nat → Int32) : List (Nat × Int32) → Prop
  | [] => True
  | (k, b) :: t => f2 t.length = nI k ∧ (f1 t.length = 0 ↔ b = -6) ∧ (b ≠ -6 → f3 t.length = b) ∧ lgM f1 f2 f3 t
def gR (m : Nat) (lg : List (Nat × Int32)) (st be : Nat → Int32) (nx : Nat) (f1 f2 f3 : Nat → Int32) : Prop := lg.length ≤ 16 ∧ nx < 16 ∧ lgQ m lg ∧ lgC st be nx lg ∧ lgM f1 f2 f3 lg
/-- an image -/
def iR (is : Bool) (m : Nat) (er sk kp : Nat → Int32) (o : Nat) (v : Int32) : Prop := (is = true → v ≠ 0 ∧ dR m er (fun j => kp (o + 61 + j)) ∧ (∀ j, j < 61 → kp (o + j) = tB m j) ∧ sR sk (fun j => kp (o + 61 + 61 + j))) ∧ (is = false → v = 0)
def kR (kr kc : Nat) (rkv ckv : Nat → Int32) : Prop := kr < 2 ^ 8 ∧ kc < 2 ^ 21 ∧ KR 0 kr rkv ∧ KR 1 kc ckv
theorem dR_at {m k : Nat} {er em : Nat → Int32} (h : dR m er em) (hk : k ≤ 60) (hb : m.testBit k = true) : er k = em k := by
  rw [h.2.2.1 k hk, if_pos hb]
theorem dR_no {m k : Nat} {er em : Nat → Int32} (h : dR m er em) (hk : k ≤ 60) (hb : m.testBit k = false) : er k = -6 := by
  rw [h.2.2.1 k hk, if_neg (by rw [hb]; decide)]
theorem dR_ne {m k : Nat} {er em : Nat → Int32} (h : dR m er em) (hk : k ≤ 60) (hb : m.testBit k = true) : er k ≠ -6 := by
  rw [dR_at h hk hb]
  exact h.2.2.2 k hk hb
theorem dR_iff {m k : Nat} {er em : Nat → Int32} (h : dR m er em) (hk : k ≤ 60) : er k = -6 ↔ m.testBit k = false := by
  constructor
  · intro e
    cases hb : m.testBit k with
    | false => rfl
    | true => exact absurd e (dR_ne h hk hb)
  · exact dR_no h hk
theorem dR_upd {m k : Nat} {er em : Nat → Int32} {v w : Int32} (h : dR m er em) (hk : k ≤ 60) (hp : pcN 64 (bcm m k v) ≤ 12) (hw : v ≠ -6 → w = v) : dR (bcm m k v) (upd er k v) (upd em k w) := by
  refine ⟨bcm_lt h.1 hk, hp, fun j hj => ?_, fun j hj => ?_⟩
  · rw [bcm_tb]
    unfold upd
    by_cases e : j = k
    · rw [if_pos e, if_pos e, if_pos e]
      by_cases hv : v = -6
      · rw [hv]
        rfl
      · rw [if_pos (by simp [hv]), hw hv]
    · rw [if_neg e, if_neg e, if_neg e]
      exact h.2.2.1 j hj
  · rw [bcm_tb]
    unfold upd
    by_cases e : j = k
    · rw [if_pos e, if_pos e]
      intro hb
      have hv : v ≠ -6 := by simpa using hb
      rw [hw hv]
      exact hv
    · rw [if_neg e, if_neg e]
      exact h.2.2.2 j hj
theorem bcm_back {m k : Nat} {v b : Int32} (h : b = -6 ↔ m.testBit k = false) : bcm (bcm m k v) k b = m := by
  apply Nat.eq_of_testBit_eq
  intro j
  rw [bcm_tb]
  by_cases e : j = k
  · subst e
    rw [if_pos rfl]
    by_cases hb : b = -6
    · rw [decide_eq_true hb, h.mp hb]
      rfl
    · rw [decide_eq_false hb]
      cases hm : m.testBit j with
      | true => rfl
      | false => exact absurd (h.mpr hm) hb
  · rw [if_neg e, bcm_tb, if_neg e]
theorem pc_bcm (m k : Nat) (v : Int32) (hk : k ≤ 60) : pcN 64 (bcm m k v) + (if m.testBit k = true then 1 else 0) = pcN 64 m + (if v = -6 then 0 else 1) := by
  have h1 := fb_ct_upd (fun j => m.testBit j) (!decide (v = -6)) (i := k) (n := 64) (by omega)
  have h2 : pcN 64 (bcm m k v) = fb_ct (fun j => if j = k then !decide (v = -6) else m.testBit j) 64 := fb_ct_cong (fun j _ => bcm_tb m k v j)
  have h3 : pcN 64 m = fb_ct (fun j => m.testBit j) 64 := rfl
  rw [h2, h3, h1]
  congr 1
  by_cases hv : v = -6
  · simp [hv]
  · simp [hv]
/-! the log grows -/
theorem lgC_up {st be : Nat → Int32} {p : Nat} {v w : Int32} (hp : p < 16) : ∀ (lg : List (Nat × Int32)) (nx : Nat), nx < 16 → lg.length ≤ (nx + 31 - p) % 16 → lgC st be nx lg → lgC (upd st p v) (upd be p w) nx lg
  | [], _, _, _, _ => trivial
  | (k, b) :: t, nx, hn, hl, h => by
    obtain ⟨h1, h2, h3⟩ := h
    have hl2 : t.length + 1 ≤ (nx + 31 - p) % 16 := hl
    have hne : (nx + 15) % 16 ≠ p := by omega
    refine ⟨?_, ?_, lgC_up hp t _ (Nat.mod_lt _ (by decide)) (by omega) h3⟩
    · unfold upd
      rw [if_neg hne]
      exact h1
    · unfold upd
      rw [if_neg hne]
      exact h2
theorem lgC_dl {st be : Nat → Int32} : ∀ (lg : List (Nat × Int32)) (nx : Nat), lgC st be nx lg → lgC st be nx lg.dropLast
  | [], _, _ => trivial
  | [_], _, _ => trivial
  | (k, b) :: y :: t, nx, h => by
    show lgC st be nx ((k, b) :: (y :: t).dropLast)
    exact ⟨h.1, h.2.1, lgC_dl (y :: t) _ h.2.2⟩
theorem lgQ_dl : ∀ (lg : List (Nat × Int32)) (m : Nat), lgQ m lg → lgQ m lg.dropLast
  | [], _, _ => trivial
  | [_], _, _ => trivial
  | (k, b) :: y :: t, m, h => by
    show lgQ m ((k, b) :: (y :: t).dropLast)
    exact ⟨h.1, h.2.1, lgQ_dl (y :: t) _ h.2.2⟩
theorem lgM_up {f1 f2 f3 : Nat → Int32} {p : Nat} {x y z : Int32} : ∀ (lg : List (Nat × Int32)), lg.length ≤ p → lgM f1 f2 f3 lg → lgM (upd f1 p x) (upd f2 p y) (upd f3 p z) lg
  | [], _, _ => trivial
  | (k, b) :: t, hl, h => by
    obtain ⟨h1, h2, h3, h4⟩ := h
    have hl2 : t.length + 1 ≤ p := hl
    have hne : t.length ≠ p := by omega
    refine ⟨?_, ?_, ?_, lgM_up t (by omega) h4⟩
    · unfold upd
      rw [if_neg hne]
      exact h1
    · unfold upd
      rw [if_neg hne]
      exact h2
    · unfold upd
      rw [if_neg hne]
      exact h3
theorem lgM_dl {f1 f2 f3 : Nat → Int32} : ∀ (lg : List (Nat × Int32)), lg.length ≤ 16 → lgM f1 f2 f3 lg → lgM (shF f1 15) (shF f2 15) (shF f3 15) lg.dropLast
  | [], _, _ => trivial
  | [_], _, _ => trivial
  | (k, b) :: y :: t, hl, h => by
    show lgM (shF f1 15) (shF f2 15) (shF f3 15) ((k, b) :: (y :: t).dropLast)
    have hl2 : t.length + 1 + 1 ≤ 16 := hl
    obtain ⟨h1, h2, h3, h4⟩ := h
    have e : ((y :: t).dropLast).length = t.length := by simp
    have e2 : ∀ f : Nat → Int32, shF f 15 t.length = f (y :: t).length := fun f => by
      unfold shF
      rw [if_pos (by omega)]
      rfl
    refine ⟨?_, ?_, ?_, lgM_dl (y :: t) (by simp only [List.length_cons]; omega) h4⟩
    · rw [e, e2]
      exact h1
    · rw [e, e2]
      exact h2
    · rw [e, e2]
      exact h3
/-- a log with a new entry -/
def lgN (x : Nat × Int32) (lg : List (Nat × Int32)) : List (Nat × Int32) := x :: (if lg.length = 16 then lg.dropLast else lg)
theorem lgN_len {x : Nat × Int32} {lg : List (Nat × Int32)} (h : lg.length ≤ 16) : (lgN x lg).length = lgc lg.length := by
  unfold lgN lgc
  by_cases e : lg.length = 16
  · rw [if_pos e, if_neg (by omega), List.length_cons, List.length_dropLast]
    omega
  · rw [if_neg e, if_pos (by omega), List.length_cons]
theorem gR_add {m m2 k nx : Nat} {lg : List (Nat × Int32)} {st be f1 f2 f3 : Nat → Int32} {b y e : Int32} (h : gR m lg st be nx f1 f2 f3) (hk : k ≤ 60) (hm : bcm m2 k b = m) (hp : pcN 64 m ≤ 12) (hy : y = 0 ↔ b = -6) (he : b ≠ -6 → e = b) : gR m2 (lgN (k, b) lg) (upd st nx (nI k)) (upd be nx b) ((nx + 1) % 16) (lgA lg.length f1 y) (lgA lg.length f2 (nI k)) (lgA lg.length f3 e) := by
  obtain ⟨h1, h2, h3, h4, h5⟩ := h
  have hl : (lgN (k, b) lg).length ≤ 16 := by
    rw [lgN_len h1]
    unfold lgc
    split <;> omega
  have e1 : ((nx + 1) % 16 + 15) % 16 = nx := by omega
  refine ⟨hl, Nat.mod_lt _ (by decide), ?_, ?_, ?_⟩
  · unfold lgN
    refine ⟨hk, by rw [hm]; exact hp, ?_⟩
    rw [hm]
    split
    · exact lgQ_dl _ _ h3
    · exact h3
  · have h6 : lgC st be nx (if lg.length = 16 then lg.dropLast else lg) := by
      split
      · exact lgC_dl _ _ h4
      · exact h4
    have h7 : (if lg.length = 16 then lg.dropLast else lg).length ≤ 15 := by
      split
      · rw [List.length_dropLast]
        omega
      · omega
    unfold lgN
    refine ⟨?_, ?_, ?_⟩
    · rw [e1]
      exact upd_at _ _ _
    · rw [e1]
      exact upd_at _ _ _
    · rw [e1]
      exact lgC_up h2 _ nx h2 (by omega) h6
  · unfold lgN lgA
    by_cases c : lg.length = 16
    · have e2 : lg.dropLast.length = 15 := by rw [List.length_dropLast]; omega
      rw [if_pos c, if_pos c, if_pos c, if_pos c]
      refine ⟨?_, ?_, ?_, lgM_up _ (by omega) (lgM_dl _ (by omega) h5)⟩
      · rw [e2]
        exact upd_at _ _ _
      · rw [e2, upd_at]
        exact hy
      · rw [e2, upd_at]
        exact he
    · rw [if_neg c, if_neg c, if_neg c, if_neg c]
      refine ⟨upd_at _ _ _, ?_, ?_, lgM_up _ (Nat.le_refl _) h5⟩
      · rw [upd_at]
        exact hy
      · rw [upd_at]
        exact he
theorem gR_0 {m nx : Nat} {st be f1 f2 f3 : Nat → Int32} (h : nx < 16) : gR m [] st be nx f1 f2 f3 := ⟨Nat.zero_le _, h, trivial, trivial, trivial⟩
/-! what is asked of them -/
theorem err_eq {m : Nat} {er em : Nat → Int32} {x v : Int32} (h : dR m er em) : errR m er x v = errR m em x v := by
  unfold errR
  by_cases c : stn m x = true
  · obtain ⟨k, hk, rfl, hb⟩ := stn_in c
    rw [cl_k hk, dR_at h hk hb]
  · rw [if_neg c, if_neg c]
theorem phv_eq {sk sm er em : Nat → Int32} {p q : Nat} (hs : sR sk sm) (hp : p ≤ 60) (hq : q ≤ 60) (h1 : er p = em p) (h2 : er q = em q) : phv sk er p q = phv sm em p q := by
  unfold phv
  rw [hs (q - p) (by omega), hs (p - q) (by omega), h1, h2]
theorem ph_eq {m : Nat} {sk sm er em : Nat → Int32} {x y : Int32} (h : dR m er em) (hs : sR sk sm) : phR m er sk x y = phR m em sm x y := by
  unfold phR
  by_cases c : stn m x = true ∧ stn m y = true
  · obtain ⟨k, hk, rfl, hb⟩ := stn_in c.1
    obtain ⟨k2, hk2, rfl, hb2⟩ := stn_in c.2
    rw [cl_k hk, cl_k hk2, phv_eq hs hk hk2 (dR_at h hk hb) (dR_at h hk2 hb2)]
  · rw [if_neg c, if_neg c]
theorem cl_eq {m : Nat} {sk sm er em : Nat → Int32} {x y z : Int32} (h : dR m er em) (hs : sR sk sm) : clR m er sk x y z = clR m em sm x y z := by
  unfold clR
  by_cases c : stn m x = true ∧ stn m y = true ∧ stn m z = true
  · obtain ⟨k, hk, rfl, hb⟩ := stn_in c.1
    obtain ⟨k2, hk2, rfl, hb2⟩ := stn_in c.2.1
    obtain ⟨k3, hk3, rfl, hb3⟩ := stn_in c.2.2
    rw [cl_k hk, cl_k hk2, cl_k hk3, phv_eq hs hk hk2 (dR_at h hk hb) (dR_at h hk2 hb2), phv_eq hs hk2 hk3 (dR_at h hk2 hb2) (dR_at h hk3 hb3), phv_eq hs hk3 hk (dR_at h hk3 hb3) (dR_at h hk hb)]
  · rw [if_neg c, if_neg c]
theorem sky_in {x v : Int32} (h : skyOk x v = true) : ∃ k, 1 ≤ k ∧ k ≤ 60 ∧ x = nI k := by
  unfold skyOk at h
  rw [Bool.and_eq_true] at h
  exact inL_of h.1
theorem sky_eq {sk sm : Nat → Int32} {x v : Int32} (hs : sR sk sm) : skyR sk x v = skyR sm x v := by
  unfold skyR
  by_cases c : skyOk x v = true
  · obtain ⟨k, h1, h2, rfl⟩ := sky_in c
    rw [cl_k h2, hs k h2]
  · rw [if_neg c, if_neg c]
theorem sky_up {sk sm : Nat → Int32} {k : Nat} {v : Int32} (hs : sR sk sm) : sR (upd sk k v) (upd sm k v) := fun j hj => by
  unfold upd
  by_cases e : j = k
  · rw [if_pos e, if_pos e]
  · rw [if_neg e, if_neg e]
    exact hs j hj
theorem td_eq {m : Nat} {sk sm er em : Nat → Int32} {cn kr kc t1 t2 : Nat} {un tp x : Int32} (h : dR m er em) (hs : sR sk sm) : tdR er sk cn kr kc (nI t1) (nI t2) un tp x = tdM m em sm (nI cn) (nI (pcN 32 kr + pcN 32 kc)) (nI (t1 + t2)) un (nI kr) (nI kc) tp x := by
  unfold tdR tdM
  by_cases c1 : inS (x - 100) = true
  · rw [if_pos c1, if_pos c1]
    obtain ⟨k, hk, e⟩ := inS_of c1
    rw [e, erX_nI hk, stn_nI hk, cl_k hk]
    exact h.2.2.1 k hk
  · rw [if_neg c1, if_neg c1]
    by_cases c2 : inL (x - 200) = true
    · rw [if_pos c2, if_pos c2]
      obtain ⟨k, h1, hk, e⟩ := inL_of c2
      rw [e, skX_nI h1 hk, cl_k hk, hs k hk]
    · rw [if_neg c2, if_neg c2, nI_add, nI_add]
/-! what is known of the searches -/
theorem kn_tb (kn n i : Nat) : (kn ||| 2 ^ n).testBit i = (kn.testBit i || decide (i = n)) := fb_bit_set kn n i
theorem kn_pc {kn n : Nat} (hn : n < 32) : (if kn.testBit n = true then pcN 32 kn else pcN 32 kn + 1) = pcN 32 (kn ||| 2 ^ n) := by
  have h1 := fb_ct_upd (fun j => kn.testBit j) true (i := n) hn
  have h2 : pcN 32 (kn ||| 2 ^ n) = fb_ct (fun j => if j = n then true else kn.testBit j) 32 := fb_ct_cong (fun j _ => by
    rw [kn_tb]
    by_cases e : j = n
    · rw [if_pos e, decide_eq_true e, Bool.or_true]
    · rw [if_neg e, decide_eq_false e, Bool.or_false])
  have h3 : pcN 32 kn = fb_ct (fun j => kn.testBit j) 32 := rfl
  rw [h2, h3]
  rw [if_pos (show true = true from rfl)] at h1
  split
  · rename_i c
    rw [if_pos c] at h1
    omega
  · rename_i c
    rw [if_neg c] at h1
    omega
theorem kn_tt {kd kn n N : Nat} (hn : n < N) : (if kn.testBit n = true then ttOf kd kn N else ttOf kd kn N + (resT kd n).2.2.1) = ttOf kd (kn ||| 2 ^ n) N := by
  cases hb : kn.testBit n with
  | true => rw [if_pos rfl, or_known hb]
  | false => rw [if_neg (by decide), tt_step hn hb]
theorem kn_pcr {kr kc n : Nat} (hn : n < 32) : (if kr.testBit n = true then pcN 32 kr + pcN 32 kc else pcN 32 kr + pcN 32 kc + 1) = pcN 32 (kr ||| 2 ^ n) + pcN 32 kc := by
  rw [← kn_pc hn]
  split <;> omega
theorem kn_pcc {kr kc n : Nat} (hn : n < 32) : (if kc.testBit n = true then pcN 32 kr + pcN 32 kc else pcN 32 kr + pcN 32 kc + 1) = pcN 32 kr + pcN 32 (kc ||| 2 ^ n) := by
  rw [← kn_pc hn]
  split <;> omega
theorem kn_ttr {kr n t N : Nat} (hn : n < N) : (if kr.testBit n = true then ttOf 0 kr N + t else ttOf 0 kr N + t + (resT 0 n).2.2.1) = ttOf 0 (kr ||| 2 ^ n) N + t := by
  rw [← kn_tt hn]
  split <;> omega
theorem kn_ttc {kc n t N : Nat} (hn : n < N) : (if kc.testBit n = true then t + ttOf 1 kc N else t + ttOf 1 kc N + (resT 1 n).2.2.1) = t + ttOf 1 (kc ||| 2 ^ n) N := by
  rw [← kn_tt hn]
  split <;> omega
theorem kn_lt {kn n N : Nat} (h : kn < 2 ^ N) (hn : n < N) : kn ||| 2 ^ n < 2 ^ N := Nat.or_lt_two_pow h (Nat.pow_lt_pow_right (by decide) hn)
theorem ok_res {kd n : Nat} (h : okN kd n) : resOk (resT kd n) = true := by
  rcases h with ⟨rfl, h1, h2⟩ | ⟨rfl, h1, h2⟩
  · exact resOk_r n h1 h2
  · exact resOk_c n h1 h2
theorem st_dR {kd n b : Nat} {er em : Nat → Int32} (h : okN kd n) (hb : spN (resT kd n).2.2.2 + b ≤ 60) : dR ((resT kd n).2.2.2 * 2 ^ b) (fa_fill (stE ((resT kd n).2.2.2 * 2 ^ b)) er 61) (fa_fill (fun _ => 0) em 61) := by
  refine ⟨resOk_sh (ok_res h) hb, by rw [stand_n h hb]; exact (lt_parts h).1, fun j hj => ?_, fun j hj _ => ?_⟩
  · rw [fa_fill_in (by omega), fa_fill_in (by omega)]
    rfl
  · rw [fa_fill_in (by omega)]
    decide
/-! images -/
theorem ik_z0 : ∀ k, k < 4 → (nI k &&& 1 = 0 ↔ k.testBit 0 = false) := by decide
theorem ik_z1 : ∀ k, k < 4 → (nI k &&& 2 = 0 ↔ k.testBit 1 = false) := by decide
theorem ik_o0 : ∀ k, k < 4 → nI k ||| 1 = nI (k ||| 1) ∧ k ||| 1 < 4 ∧ (k ||| 1).testBit 0 = true ∧ (k ||| 1).testBit 1 = k.testBit 1 := by decide
theorem ik_o1 : ∀ k, k < 4 → nI k ||| 2 = nI (k ||| 2) ∧ k ||| 2 < 4 ∧ (k ||| 2).testBit 1 = true ∧ (k ||| 2).testBit 0 = k.testBit 0 := by decide
def kpN (m : Nat) (em sm kp : Nat → Int32) (o : Nat) : Nat → Int32 := cpy sm (cpy em (cpy (tB m) kp o 61) (o + 61) 61) (o + 61 + 61) 61
theorem kpN_in {m o : Nat} {em sm kp : Nat → Int32} {j : Nat} (hj : j < 61) : kpN m em sm kp o (o + j) = tB m j ∧ kpN m em sm kp o (o + 61 + j) = em j ∧ kpN m em sm kp o (o + 61 + 61 + j) = sm j := by
  unfold kpN
  refine ⟨?_, ?_, ?_⟩
  · rw [cpy_out (by omega), cpy_out (by omega), cpy_in hj]
  · rw [cpy_out (by omega), cpy_in hj]
  · rw [cpy_in hj]
theorem kpN_out {m o i : Nat} {em sm kp : Nat → Int32} (h : i < o ∨ o + 183 ≤ i) : kpN m em sm kp o i = kp i := by
  unfold kpN
  rw [cpy_out (by omega), cpy_out (by omega), cpy_out (by omega)]
theorem dR_cong {m : Nat} {er em em2 : Nat → Int32} (h : dR m er em) (he : ∀ j, j ≤ 60 → em2 j = em j) : dR m er em2 := by
  refine ⟨h.1, h.2.1, fun j hj => ?_, fun j hj hb => ?_⟩
  · rw [he j hj]
    exact h.2.2.1 j hj
  · rw [he j hj]
    exact h.2.2.2 j hj hb
theorem iR_new {m o : Nat} {er em sk sm kp : Nat → Int32} {v : Int32} (h : dR m er em) (hs : sR sk sm) (hv : v ≠ 0) : iR true m er sk (kpN m em sm kp o) o v :=
  ⟨fun _ => ⟨hv, dR_cong h (fun j hj => (kpN_in (by omega)).2.1), fun j hj => (kpN_in hj).1, fun j hj => ((kpN_in (by omega)).2.2).trans (hs j hj)⟩, fun z => by cases z⟩
theorem iR_keep {is : Bool} {m m2 o o2 : Nat} {er em sk sm kp : Nat → Int32} {v : Int32} (h : iR is m2 er sk kp o2 v) (ho : o2 + 183 ≤ o ∨ o + 183 ≤ o2) : iR is m2 er sk (kpN m em sm kp o) o2 v := by
  refine ⟨fun hi => ?_, h.2⟩
  obtain ⟨h1, h2, h3, h4⟩ := h.1 hi
  refine ⟨h1, dR_cong h2 (fun j hj => ?_), fun j hj => ?_, fun j hj => ?_⟩
  · exact kpN_out (by omega)
  · rw [kpN_out (by omega)]
    exact h3 j hj
  · show kpN m em sm kp o _ = _
    rw [kpN_out (by omega)]
    exact h4 j hj
theorem iR_v {is : Bool} {m o : Nat} {er sk kp : Nat → Int32} {v : Int32} (h : iR is m er sk kp o v) : v = 0 ↔ is = false := by
  cases is with
  | true => exact ⟨fun z => absurd z (h.1 rfl).1, fun z => by cases z⟩
  | false => exact ⟨fun _ => rfl, fun _ => h.2 rfl⟩
theorem iR_back {m m2 o : Nat} {er sk em sm kp : Nat → Int32} {v : Int32} (hm : m < 2 ^ 61) (h : iR true m2 er sk kp o v) : fa_fill (rdR kp o) (tB m) 61 = tB m2 ∧ dR m2 er (fa_fill (rdR kp (o + 61)) em 61) ∧ sR sk (fa_fill (rdR kp (o + 61 + 61)) sm 61) := by
  obtain ⟨-, h2, h3, h4⟩ := h.1 rfl
  refine ⟨rd_tB hm h2.1 h3, dR_cong h2 (fun j hj => ?_), fun j hj => ?_⟩
  · rw [fa_fill_in (by omega)]
    rfl
  · rw [fa_fill_in (by omega)]
    exact h4 j hj
/-- the two worlds picture one state -/
def Inv (G : GG) (a ar ac b : Nat → Nat) (wc wm : va_W) : Prop := ∃ (m : Nat) (er em sk sm : Nat → Int32) (lg : List (Nat × Int32)) (st be : Nat → Int32) (nx : Nat) (f1 f2 f3 : Nat → Int32) (ik : Nat) (m1 : Nat) (er1 sk1 : Nat → Int32) (m2 : Nat) (er2 sk2 kp iqf : Nat → Int32) (un tp : Int32) (kr kc : Nat) (mf nf rkv ckv : Nat → Int32) (ka wr : Int32),
  wc = cW G a ar ac m er sk m1 er1 sk1 m2 er2 sk2 st be nx lg.length (nI ik) un tp kr kc ∧ wm = mW G b m em sm f1 f2 f3 lg.length un tp kr kc mf nf rkv ckv kp iqf ka wr ∧ dR m er em ∧ sR sk sm ∧ gR m lg st be nx f1 f2 f3 ∧ ik < 4 ∧ iR (ik.testBit 0) m1 er1 sk1 kp 0 (iqf 0) ∧ iR (ik.testBit 1) m2 er2 sk2 kp 183 (iqf 1) ∧ kR kr kc rkv ckv
/-- a call on both sides: one answer, and the worlds picture one state again -/
def okOp (l : Launch) (G : GG) (a ar ac b : Nat → Nat) (yx ym : MethodName) (wx wy : List Cond) (rx ry : Room) (av : List Value) (wc wm : va_W) : Prop := ∃ PC PM : Option Value → va_W → Prop, CT l G yx wx rx (.ref (a 0) :: av) wc PC 0 0 ∧ CT l G ym wy ry (.ref (b 0) :: av) wm PM 0 0 ∧ (∀ r1 w1, PC r1 w1 → ∃ v : Int32, r1 = some (.int v)) ∧ ∀ r1 w1 r2 w2, PC r1 w1 → PM r2 w2 → ∃ v : Int32, r1 = some (.int v) ∧ r2 = some (.int v) ∧ ∃ wc2 wm2, w1.Perm wc2 ∧ w2.Perm wm2 ∧ Inv G a ar ac b wc2 wm2
