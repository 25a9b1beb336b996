/-! A row of changes, one after the other: the marks, the errors, the log behind each; undone they come back. -/
def hM (S : Nat → Nat) (v : Nat → Int32) (m0 : Nat) : Nat → Nat
  | 0 => m0
  | k + 1 => bcm (hM S v m0 k) (S k) (v k)
def hE (S : Nat → Nat) (v : Nat → Int32) (e0 : Nat → Int32) : Nat → Nat → Int32
  | 0 => e0
  | k + 1 => upd (hE S v e0 k) (S k) (v k)
def hL (S : Nat → Nat) (v : Nat → Int32) (e0 : Nat → Int32) : Nat → Nat → List (Nat × Int32)
  | 0, _ => []
  | c + 1, k => (S (k - 1), hE S v e0 (k - 1) (S (k - 1))) :: hL S v e0 c (k - 1)
def dE (m : Nat) (er : Nat → Int32) : Prop := ∀ j, j ≤ 60 → (er j = -6 ↔ m.testBit j = false)
theorem dE_upd {m k : Nat} {er : Nat → Int32} {v : Int32} (h : dE m er) : dE (bcm m k v) (upd er k v) := by
  intro j hj
  rw [bcm_tb]
  unfold upd
  by_cases e : j = k
  · rw [if_pos e, if_pos e]
    by_cases hv : v = -6
    · rw [decide_eq_true hv]
      exact ⟨fun _ => rfl, fun _ => hv⟩
    · rw [decide_eq_false hv]
      exact ⟨fun q => absurd q hv, fun q => by cases q⟩
  · rw [if_neg e, if_neg e]
    exact h j hj
theorem hE_dE {S : Nat → Nat} {v : Nat → Int32} {m0 : Nat} {e0 : Nat → Int32} (h : dE m0 e0) : ∀ k, dE (hM S v m0 k) (hE S v e0 k)
  | 0 => h
  | k + 1 => dE_upd (hE_dE h k)
theorem h_backM {S : Nat → Nat} {v : Nat → Int32} {m0 : Nat} {e0 : Nat → Int32} {k : Nat} (h : dE m0 e0) (hk : S k ≤ 60) : bcm (hM S v m0 (k + 1)) (S k) (hE S v e0 k (S k)) = hM S v m0 k := bcm_back (hE_dE h k (S k) hk)
theorem h_backE {S : Nat → Nat} {v : Nat → Int32} {e0 : Nat → Int32} {k : Nat} : upd (hE S v e0 (k + 1)) (S k) (hE S v e0 k (S k)) = hE S v e0 k := by
  show upd (upd (hE S v e0 k) (S k) (v k)) (S k) (hE S v e0 k (S k)) = _
  rw [fa_upd_twice]
  exact fa_upd_same rfl
theorem hL_len {S : Nat → Nat} {v : Nat → Int32} {e0 : Nat → Int32} : ∀ c k, (hL S v e0 c k).length = c
  | 0, _ => rfl
  | c + 1, k => by
    show (hL S v e0 c (k - 1)).length + 1 = c + 1
    rw [hL_len c (k - 1)]
theorem hL_dl {S : Nat → Nat} {v : Nat → Int32} {e0 : Nat → Int32} : ∀ c k, (hL S v e0 (c + 1) k).dropLast = hL S v e0 c k
  | 0, _ => rfl
  | c + 1, k => by
    show ((S (k - 1), hE S v e0 (k - 1) (S (k - 1))) :: (hL S v e0 (c + 1) (k - 1))).dropLast = _
    rw [List.dropLast_cons_of_ne_nil (by show hL S v e0 (c + 1) (k - 1) ≠ []; unfold hL; exact List.cons_ne_nil _ _), hL_dl c (k - 1)]
    rfl
theorem hL_new {S : Nat → Nat} {v : Nat → Int32} {e0 : Nat → Int32} {c k : Nat} (hc : c < 16) : lgN (S k, hE S v e0 k (S k)) (hL S v e0 c k) = hL S v e0 (c + 1) (k + 1) := by
  unfold lgN
  rw [hL_len, if_neg (by omega)]
  rfl
theorem hL_full {S : Nat → Nat} {v : Nat → Int32} {e0 : Nat → Int32} {k : Nat} : lgN (S k, hE S v e0 k (S k)) (hL S v e0 16 k) = hL S v e0 16 (k + 1) := by
  unfold lgN
  rw [hL_len, if_pos rfl, hL_dl 15 k]
  rfl
