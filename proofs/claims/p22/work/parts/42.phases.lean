/-! Phases: round three of them the wrong ones do not show. -/
theorem fm_k0 : ∀ x, x < 40 → ∀ y, y < 100 → fm (nI (x * 100 + y) - 2000) 360 = nI ((x * 100 + y + 160) % 360) := by decide +kernel
theorem fm_k (i : Nat) (h : i < 4000) : fm (nI i - 2000) 360 = nI ((i + 160) % 360) := by
  have h1 := fm_k0 (i / 100) (by omega) (i % 100) (by omega)
  rw [show i / 100 * 100 + i % 100 = i by omega] at h1
  exact h1
theorem fm_p {t : Nat} (h : t < 1100) : fm (nI t) 360 = nI (t % 360) := by
  have h1 := fm_k (t + 2000) (by omega)
  rw [show nI (t + 2000) - 2000 = nI t by rw [show (2000 : Int32) = nI 2000 by decide, pk_sub (by omega), Nat.add_sub_cancel]] at h1
  rw [h1]
  congr 1
  omega
theorem alg_1 (a b x : Int32) : (a + b - x) - b = a - x := by
  apply Int32.toBitVec_inj.mp
  simp only [Int32.toBitVec_sub, Int32.toBitVec_add]
  bv_omega
theorem alg_2 (a b x y : Int32) : (b + y - (a + x)) - b = -(a + x - y) := by
  apply Int32.toBitVec_inj.mp
  simp only [Int32.toBitVec_sub, Int32.toBitVec_add, Int32.toBitVec_neg]
  bv_omega
def dN (sz : Nat → Nat) (x y : Nat) : Nat := if x < y then sz (y - x) + 720 else 720 - sz (x - y)
theorem ph_v {sk er : Nat → Int32} {sz : Nat → Nat} {x y ex ey : Nat} (hs : ∀ j, sk j = nI (sz j)) (hl : ∀ j, sz j < 360) (hx : er x = nI ex) (hy : er y = nI ey) (hex : ex < 360) (hey : ey < 360) : phv sk er x y = nI ((dN sz x y + ey + 1440 - ex) % 360) := by
  unfold phv dN
  by_cases c : x < y
  · rw [if_pos c, if_pos c, hs, hx, hy]
    have h0 := hl (y - x)
    have e : nI (sz (y - x)) + nI ey - nI ex = nI (sz (y - x) + ey + 2000 - ex) - 2000 := by
      rw [← pk_sub (by omega), ← nI_add, ← nI_add, show nI 2000 = (2000 : Int32) from rfl, alg_1]
    rw [e, fm_k _ (by omega)]
    congr 1
    omega
  · rw [if_neg c, if_neg c, hs, hx, hy]
    have h0 := hl (x - y)
    have e : -(nI (sz (x - y)) + nI ex - nI ey) = nI (2000 + ey - (sz (x - y) + ex)) - 2000 := by
      rw [← pk_sub (by omega), ← nI_add, ← nI_add, show nI 2000 = (2000 : Int32) from rfl, alg_2]
    rw [e, fm_k _ (by omega)]
    congr 1
    omega
def cV (sz : Nat → Nat) (x y z : Nat) : Int32 := if x = y ∨ y = z ∨ z = x then -5 else nI ((dN sz x y + dN sz y z + dN sz z x) % 360)
theorem cl_v {m n : Nat} {X : Nat → Nat} {sk er : Nat → Int32} {sz f : Nat → Nat} (h : MK m n X) (hs : ∀ j, sk j = nI (sz j)) (hl : ∀ j, sz j < 360) (he : ∀ j, j < n → er (X j) = nI (f j) ∧ f j < 360) {i j k : Nat} (hi : i < n) (hj : j < n) (hk : k < n) : clR m er sk (nI (X i)) (nI (X j)) (nI (X k)) = cV sz (X i) (X j) (X k) := by
  have bi := h.le hi
  have bj := h.le hj
  have bk := h.le hk
  have e1 : (nI (X i) = nI (X j)) = (X i = X j) := propext (nI_eq (by omega) (by omega))
  have e2 : (nI (X j) = nI (X k)) = (X j = X k) := propext (nI_eq (by omega) (by omega))
  have e3 : (nI (X k) = nI (X i)) = (X k = X i) := propext (nI_eq (by omega) (by omega))
  unfold clR cV
  rw [if_pos ⟨by rw [stn_nI bi]; exact h.tb hi, by rw [stn_nI bj]; exact h.tb hj, by rw [stn_nI bk]; exact h.tb hk⟩]
  by_cases c : X i = X j ∨ X j = X k ∨ X k = X i
  · rw [if_pos c, if_pos (by rw [e1, e2, e3]; exact c)]
  · rw [if_neg c, if_neg (by rw [e1, e2, e3]; exact c), cl_k bi, cl_k bj, cl_k bk, ph_v hs hl (he i hi).1 (he j hj).1 (he i hi).2 (he j hj).2, ph_v hs hl (he j hj).1 (he k hk).1 (he j hj).2 (he k hk).2, ph_v hs hl (he k hk).1 (he i hi).1 (he k hk).2 (he i hi).2, nI_add, nI_add]
    have f1 := (he i hi).2
    have f2 := (he j hj).2
    have f3 := (he k hk).2
    have d0 : ∀ x y, 360 < dN sz x y := fun x y => by
      unfold dN
      have := hl (y - x)
      have := hl (x - y)
      split <;> omega
    have d1 := d0 (X i) (X j)
    have d2 := d0 (X j) (X k)
    have d3 := d0 (X k) (X i)
    rw [fm_p (by omega)]
    congr 1
    omega
/-- skies on a slope: nothing is left round three -/
theorem cv_sl {sz : Nat → Nat} {sl x y z l : Nat} (hsz : ∀ j, 1 ≤ j → j ≤ l → sz j = sl * j % 360) (h1 : x < y) (h2 : y < z) (h3 : z ≤ x + l) : cV sz x y z = 0 := by
  unfold cV dN
  rw [if_neg (by omega), if_pos h1, if_pos h2, if_neg (by omega), hsz _ (by omega) (by omega), hsz _ (by omega) (by omega), hsz _ (by omega) (by omega)]
  have e : sl * (z - x) = sl * (y - x) + sl * (z - y) := by rw [← Nat.mul_add]; congr 1; omega
  rw [e]
  generalize sl * (y - x) = u
  generalize sl * (z - y) = v
  rw [show (u % 360 + 720 + (v % 360 + 720) + (720 - (u + v) % 360)) % 360 = 0 by omega]
  rfl
theorem cv_rot (sz : Nat → Nat) (x y z : Nat) : cV sz z x y = cV sz x y z := by
  unfold cV
  have e : dN sz z x + dN sz x y + dN sz y z = dN sz x y + dN sz y z + dN sz z x := by omega
  by_cases c : x = y ∨ y = z ∨ z = x
  · rw [if_pos c, if_pos (by rcases c with h | h | h <;> simp [h])]
  · rw [if_neg c, if_neg (fun h => c (by rcases h with h | h | h <;> simp [h])), e]
