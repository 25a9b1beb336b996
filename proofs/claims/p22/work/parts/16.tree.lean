/-! The searches as functions of numbers. -/
/-- how many were found, how many tried, the first: its marks as bits, as a list (the last mark first) -/
abbrev RAcc : Type := Nat × Nat × Nat × List Nat
def rAdd (a : RAcc) (x : Nat) (xs : List Nat) : RAcc := (a.1 + 1, a.2.1, (if nI a.1 = 0 then x else a.2.2.1), (if nI a.1 = 0 then xs else a.2.2.2))
def rTry (a : RAcc) : RAcc := (a.1, a.2.1 + 1, a.2.2.1, a.2.2.2)
def rLoop (f : Nat → RAcc → RAcc) : Nat → Nat → RAcc → RAcc
  | 0, _, a => a
  | n + 1, mark, a => rLoop f n (mark + 1) (f mark a)
def rFrom (sz k last : Nat) : Nat := if k = 0 then max (last + 1) sz else last + 1
def rTo (sz k : Nat) : Nat := sz - k * (k + 1) / 2
def rB (go : Nat → Nat → Nat → Nat → List Nat → RAcc → RAcc) (k last back lens marks : Nat) (ms : List Nat) (mark : Nat) (a : RAcc) : RAcc :=
  if (back * 2 ^ (mark - last)) &&& lens = 0 then
    (if k = 0 then rAdd (rTry a) (marks ||| 2 ^ mark) (mark :: ms)
     else go mark (back * 2 ^ (mark - last) ||| 1) (lens ||| back * 2 ^ (mark - last)) (marks ||| 2 ^ mark) (mark :: ms) (rTry a))
  else rTry a
/-- all rulers that end at sz, of those that begin so -/
def rT (sz : Nat) : Nat → Nat → Nat → Nat → Nat → List Nat → RAcc → RAcc
  | 0 => fun _ _ _ _ _ a => a
  | k + 1 => fun last back lens marks ms a => rLoop (rB (rT sz k) k last back lens marks ms) (rTo sz k + 1 - rFrom sz k last) (rFrom sz k last) a
/-- length after length, until there are rulers -/
def rR (n : Nat) : Nat → Nat → Nat → RAcc → Nat × RAcc
  | 0, _, sz, a => (sz, a)
  | fu + 1, e, sz, a => if nI a.1 = 0 then rR n fu (e + 1) e (rT e (n - 1) 0 1 0 1 [0] a) else (sz, a)
def rRes (n : Nat) : Nat × RAcc := rR n (61 - n * (n - 1) / 2) (n * (n - 1) / 2) 0 (0, 0, 0, [])
/-- a number worked out before it is handed on -/
def nf {α : Type} (n : Nat) (f : Nat → α) : α := match n with
  | 0 => f 0
  | m + 1 => f (m + 1)
theorem nf_eq {α : Type} (n : Nat) (f : Nat → α) : nf n f = f n := by cases n <;> rfl
/-- bits counted by few steps -/
def pcQ (n : Nat) : Nat := nf (n - (n / 2 &&& 6148914691236517205)) fun a => nf ((a &&& 3689348814741910323) + (a / 4 &&& 3689348814741910323)) fun b => nf ((b + b / 16) &&& 1085102592571150095) fun c => nf (c + c / 256) fun d => nf (d + d / 65536) fun e => (e + e / 4294967296) % 128
theorem pcQ_eq {n : Nat} (hn : n < 2 ^ 64) : pcN 64 n = pcQ n := by
  obtain ⟨c0, c1, c2, c3, c4, c5, c6, c7, h0, h1, h2, h3, h4, h5, h6, h7, hcnt, hle, hall⟩ := pc_64 hn
  have hf := pc_fold h0 h1 h2 h3 h4 h5 h6 h7 (hall _ _ rfl rfl).2.2 rfl rfl rfl
  rw [hcnt, ← hf.2.2.2]
  simp only [pcQ, nf_eq]
def cB (go : Nat → Nat → Nat → Nat → List Nat → RAcc → RAcc) (len sz k last back lens marks : Nat) (ms : List Nat) (mark : Nat) (a : RAcc) : RAcc :=
  if len - pcQ (lens ||| back * 2 ^ (mark - last) ||| 2 ^ (len - mark)) ≤ k * (sz - k) + k * (k - 1) / 2 then
    (if k = 0 then rAdd (rTry a) (marks ||| 2 ^ mark) (mark :: ms)
     else go mark (back * 2 ^ (mark - last) ||| 1) (lens ||| back * 2 ^ (mark - last) ||| 2 ^ (len - mark)) (marks ||| 2 ^ mark) (mark :: ms) (rTry a))
  else rTry a
/-- all covers of a length, of sz marks, of those that begin so -/
def cT (len sz : Nat) : Nat → Nat → Nat → Nat → Nat → List Nat → RAcc → RAcc
  | 0 => fun _ _ _ _ _ a => a
  | k + 1 => fun last back lens marks ms a => rLoop (cB (cT len sz k) len sz k last back lens marks ms) (len - (last + 1)) (last + 1) a
def cOne (len mm : Nat) (a : RAcc) : RAcc :=
  if 2 < mm then cT len mm (mm - 2) 0 1 (2 ^ len) (1 ||| 2 ^ len) [0] a
  else if len - pcQ (2 ^ len) = 0 then rAdd a (1 ||| 2 ^ len) [0] else a
def cR (len : Nat) : Nat → Nat → Nat → RAcc → Nat × RAcc
  | 0, _, sz, a => (sz, a)
  | fu + 1, mm, sz, a => if nI a.1 = 0 then (if mm * (mm - 1) / 2 < len then cR len fu (mm + 1) sz a else cR len fu (mm + 1) mm (cOne len mm a)) else (sz, a)
def cRes (len : Nat) : Nat × RAcc := cR len 11 2 0 (0, 0, 0, [])

/-! The same, so that a number is worked out before it is handed on. -/
def eLoop (f : Nat → RAcc → RAcc) : Nat → Nat → RAcc → RAcc
  | 0, _, a => a
  | n + 1, mark, a => match f mark a with
    | (nb, tr, fi, fl) => nf nb fun nb => nf tr fun tr => nf fi fun fi => nf (mark + 1) fun mark => eLoop f n mark (nb, tr, fi, fl)
theorem eLoop_eq {f g : Nat → RAcc → RAcc} (h : ∀ mark a, f mark a = g mark a) : ∀ n mark a, eLoop f n mark a = rLoop g n mark a
  | 0, _, _ => rfl
  | n + 1, mark, a => by
    unfold eLoop rLoop
    rw [← h]
    obtain ⟨nb, tr, fi, fl⟩ := f mark a
    simp only [nf_eq]
    exact eLoop_eq h n (mark + 1) _
def eB (go : Nat → Nat → Nat → Nat → List Nat → RAcc → RAcc) (k last back lens marks : Nat) (ms : List Nat) (mark : Nat) (a : RAcc) : RAcc :=
  nf (back * 2 ^ (mark - last)) fun sp => bif Nat.beq (sp &&& lens) 0 then
    (nf (marks ||| 2 ^ mark) fun wm => bif Nat.beq k 0 then rAdd (rTry a) wm (mark :: ms) else nf (sp ||| 1) fun bk => nf (lens ||| sp) fun ln => go mark bk ln wm (mark :: ms) (rTry a)) else rTry a
theorem beq_ite {α : Type} (n : Nat) (x y : α) : (bif Nat.beq n 0 then x else y) = if n = 0 then x else y := by
  cases n <;> rfl
theorem ble_ite {α : Type} (n m : Nat) (x y : α) : (bif Nat.ble n m then x else y) = if n ≤ m then x else y := by
  by_cases h : n ≤ m
  · rw [if_pos h, Nat.ble_eq.mpr h]; rfl
  · rw [if_neg h]
    cases hb : Nat.ble n m with
    | true => exact absurd (Nat.ble_eq.mp hb) h
    | false => rfl
theorem eB_eq {go go2 : Nat → Nat → Nat → Nat → List Nat → RAcc → RAcc} (h : ∀ a b c d e f, go a b c d e f = go2 a b c d e f) (k last back lens marks : Nat) (ms : List Nat) (mark : Nat) (a : RAcc) : eB go k last back lens marks ms mark a = rB go2 k last back lens marks ms mark a := by
  unfold eB rB
  simp only [nf_eq, beq_ite, h]
def eT (sz : Nat) : Nat → Nat → Nat → Nat → Nat → List Nat → RAcc → RAcc
  | 0 => fun _ _ _ _ _ a => a
  | k + 1 => fun last back lens marks ms a => eLoop (eB (eT sz k) k last back lens marks ms) (rTo sz k + 1 - rFrom sz k last) (rFrom sz k last) a
theorem eT_eq (sz : Nat) : ∀ k a b c d e f, eT sz k a b c d e f = rT sz k a b c d e f
  | 0, _, _, _, _, _, _ => rfl
  | k + 1, a, b, c, d, e, f => eLoop_eq (fun mark x => eB_eq (eT_eq sz k) k a b c d e mark x) _ _ _
def eR (n : Nat) : Nat → Nat → Nat → RAcc → Nat × RAcc
  | 0, _, sz, a => (sz, a)
  | fu + 1, e, sz, a => bif Nat.beq a.1 0 then (match eT e (n - 1) 0 1 0 1 [0] a with | (nb, tr, fi, fl) => nf nb fun nb => nf tr fun tr => nf fi fun fi => eR n fu (e + 1) e (nb, tr, fi, fl)) else (sz, a)
theorem eR_eq (n : Nat) : ∀ fu e sz (a : RAcc), (eR n fu e sz a).2.1 < 2 ^ 31 → eR n fu e sz a = rR n fu e sz a
  | 0, _, _, _, _ => rfl
  | fu + 1, e, sz, a, h => by
    unfold eR at h ⊢
    unfold rR
    rw [beq_ite] at h ⊢
    by_cases h0 : a.1 = 0
    · rw [if_pos h0] at h ⊢
      rw [if_pos (by rw [h0]; rfl), ← eT_eq]
      generalize eT e (n - 1) 0 1 0 1 [0] a = r at h ⊢
      obtain ⟨nb, tr, fi, fl⟩ := r
      simp only [nf_eq] at h ⊢
      exact eR_eq n fu (e + 1) e _ h
    · rw [if_neg h0] at h ⊢
      rw [if_neg (show ¬ nI a.1 = 0 from fun q => h0 (i_eq (b := 0) h (by decide) q))]
def fB (go : Nat → Nat → Nat → Nat → List Nat → RAcc → RAcc) (len sz k last back lens marks : Nat) (ms : List Nat) (mark : Nat) (a : RAcc) : RAcc :=
  nf (back * 2 ^ (mark - last)) fun sp => nf (lens ||| sp ||| 2 ^ (len - mark)) fun th => bif Nat.ble (len - pcQ th) (k * (sz - k) + k * (k - 1) / 2) then
    (nf (marks ||| 2 ^ mark) fun wm => bif Nat.beq k 0 then rAdd (rTry a) wm (mark :: ms) else nf (sp ||| 1) fun bk => go mark bk th wm (mark :: ms) (rTry a)) else rTry a
theorem fB_eq {go go2 : Nat → Nat → Nat → Nat → List Nat → RAcc → RAcc} (h : ∀ a b c d e f, go a b c d e f = go2 a b c d e f) (len sz k last back lens marks : Nat) (ms : List Nat) (mark : Nat) (a : RAcc) : fB go len sz k last back lens marks ms mark a = cB go2 len sz k last back lens marks ms mark a := by
  unfold fB cB
  simp only [nf_eq, beq_ite, ble_ite, h]
def fT (len sz : Nat) : Nat → Nat → Nat → Nat → Nat → List Nat → RAcc → RAcc
  | 0 => fun _ _ _ _ _ a => a
  | k + 1 => fun last back lens marks ms a => eLoop (fB (fT len sz k) len sz k last back lens marks ms) (len - (last + 1)) (last + 1) a
theorem fT_eq (len sz : Nat) : ∀ k a b c d e f, fT len sz k a b c d e f = cT len sz k a b c d e f
  | 0, _, _, _, _, _, _ => rfl
  | k + 1, a, b, c, d, e, f => eLoop_eq (fun mark x => fB_eq (fT_eq len sz k) len sz k a b c d e mark x) _ _ _
def fOne (len mm : Nat) (a : RAcc) : RAcc :=
  bif Nat.ble mm 2 then (bif Nat.beq (len - pcQ (2 ^ len)) 0 then rAdd a (1 ||| 2 ^ len) [0] else a) else nf (2 ^ len) fun b => nf (1 ||| b) fun c => fT len mm (mm - 2) 0 1 b c [0] a
theorem fOne_eq (len mm : Nat) (a : RAcc) : fOne len mm a = cOne len mm a := by
  unfold fOne cOne
  rw [ble_ite, beq_ite]
  by_cases h : mm ≤ 2
  · rw [if_pos h, if_neg (show ¬ 2 < mm by omega)]
  · rw [if_neg h, if_pos (show 2 < mm by omega)]
    simp only [nf_eq, fT_eq]
def fR (len : Nat) : Nat → Nat → Nat → RAcc → Nat × RAcc
  | 0, _, sz, a => (sz, a)
  | fu + 1, mm, sz, a => bif Nat.beq a.1 0 then (bif Nat.ble len (mm * (mm - 1) / 2) then (match fOne len mm a with | (nb, tr, fi, fl) => nf nb fun nb => nf tr fun tr => nf fi fun fi => fR len fu (mm + 1) mm (nb, tr, fi, fl)) else fR len fu (mm + 1) sz a) else (sz, a)
theorem fR_eq (len : Nat) : ∀ fu mm sz (a : RAcc), (fR len fu mm sz a).2.1 < 2 ^ 31 → fR len fu mm sz a = cR len fu mm sz a
  | 0, _, _, _, _ => rfl
  | fu + 1, mm, sz, a, h => by
    unfold fR at h ⊢
    unfold cR
    rw [beq_ite, ble_ite] at h ⊢
    by_cases h0 : a.1 = 0
    · rw [if_pos h0] at h ⊢
      rw [if_pos (show nI a.1 = 0 by rw [h0]; rfl)]
      by_cases h1 : len ≤ mm * (mm - 1) / 2
      · rw [if_pos h1] at h ⊢
        rw [if_neg (show ¬ mm * (mm - 1) / 2 < len by omega), ← fOne_eq]
        generalize fOne len mm a = r at h ⊢
        obtain ⟨nb, tr, fi, fl⟩ := r
        simp only [nf_eq] at h ⊢
        exact fR_eq len fu (mm + 1) mm _ h
      · rw [if_neg h1] at h ⊢
        rw [if_pos (show mm * (mm - 1) / 2 < len by omega)]
        exact fR_eq len fu (mm + 1) sz a h
    · rw [if_neg h0] at h ⊢
      rw [if_neg (show ¬ nI a.1 = 0 from fun q => h0 (i_eq (b := 0) h (by decide) q))]
