/-! What the calls answer, by the line m and the rest. -/
def putOk (m : Nat) (x : Int32) : Bool := inS x && (!stn m x && decide (pcN 64 m < 12))
def putR (m : Nat) (x : Int32) : Int32 := if inS x = true then (if stn m x = true then -5 else if pcN 64 m < 12 then nI (pcN 64 (bcm m x.toNatClampNeg 0)) else -4) else -2
def liftR (m : Nat) (x : Int32) : Int32 := if stn m x = true then nI (pcN 64 (bcm m x.toNatClampNeg (-6))) else -1
def spcR (m : Nat) (x : Int32) : Int32 := if inL x = true then nI (ofX m x) else -2
def faR (m : Nat) (x : Int32) : Int32 := if x = 0 then nI (pcN 64 m) else if x = 1 then nI (spN m) else if x = 2 then nI (reN m) else if x = 3 then nI (lkN m) else if x = 4 then nI (rpN m) else if x = 5 then llN m else if x = 6 then moN m else -2
def errOk (m : Nat) (x v : Int32) : Bool := stn m x && inP v
def errR (m : Nat) (er : Nat → Int32) (x v : Int32) : Int32 := if stn m x = true then (if inP v = true then er x.toNatClampNeg else -2) else -1
def skyOk (x v : Int32) : Bool := inL x && inP v
def skyR (sk : Nat → Int32) (x v : Int32) : Int32 := if skyOk x v = true then sk x.toNatClampNeg else -2
def phR (m : Nat) (er sk : Nat → Int32) (x y : Int32) : Int32 := if stn m x = true ∧ stn m y = true then (if x = y then -5 else phv sk er x.toNatClampNeg y.toNatClampNeg) else -1
def clR (m : Nat) (er sk : Nat → Int32) (x y z : Int32) : Int32 := if stn m x = true ∧ stn m y = true ∧ stn m z = true then (if x = y ∨ y = z ∨ z = x then -5 else fm (phv sk er x.toNatClampNeg y.toNatClampNeg + phv sk er y.toNatClampNeg z.toNatClampNeg + phv sk er z.toNatClampNeg x.toNatClampNeg) 360) else -1
def leftR (m : Nat) (x : Int32) : Int32 := if stn m x = true then nI (reN (woN m (bitO x))) else -1
theorem stn_in {m : Nat} {x : Int32} (h : stn m x = true) : ∃ k, k ≤ 60 ∧ x = nI k ∧ m.testBit k = true := by
  unfold stn at h
  rw [Bool.and_eq_true] at h
  obtain ⟨k, hk, rfl⟩ := inS_of h.1
  rw [nI_clamp (by omega)] at h
  exact ⟨k, hk, rfl, h.2⟩
theorem inS_t {k : Nat} (h : k ≤ 60) : inS (nI k) = true := by rw [inS_nI (by omega)]; simp [h]
theorem cl_k {k : Nat} (h : k ≤ 60) : (nI k).toNatClampNeg = k := nI_clamp (by omega)
theorem tab_out (x : Int32) : x = x := rfl
/-- the dish whose loss leaves the least -/
def mmF (m some0 : Nat) : Nat → Nat → Nat → Int32 → Int32
  | 0, _, _, most => most
  | n + 1, s, least, most => if some0.testBit s = true then (if reN (woN m (2 ^ s)) < least then mmF m some0 n (s + 1) (reN (woN m (2 ^ s))) (nI s) else mmF m some0 n (s + 1) least most) else mmF m some0 n (s + 1) least most
def mmA (m some0 : Nat) : Int32 := mmF m some0 61 0 61 (-6)
theorem mmF_s (m some0 n s least : Nat) (most : Int32) : mmF m some0 (n + 1) s least most = if some0.testBit s = true then (if reN (woN m (2 ^ s)) < least then mmF m some0 n (s + 1) (reN (woN m (2 ^ s))) (nI s) else mmF m some0 n (s + 1) least most) else mmF m some0 n (s + 1) least most := rfl
def miF (m : Nat) : Nat → Nat → Nat
  | 0, some0 => some0
  | n + 1, some0 => miF m n (woN some0 (bitO (mmA m some0)))
def misR (m : Nat) (i : Int32) : Int32 := if 0 ≤ i ∧ i < nI (pcN 64 m) then mmA m (miF m (min i.toNatClampNeg 12) m) else -6
def sureR (m : Nat) : Int32 := if pcN 64 m = 0 then 0 else nI (reN (woN m (bitO (mmA m m))))
