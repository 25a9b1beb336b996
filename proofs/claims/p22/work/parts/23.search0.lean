/-! What the searches of a kind keep. -/
/-- what is found: the least size, how many, the tries, the first as bits -/
def resT (kd n : Nat) : Nat × Nat × Nat × Nat := if kd = 0 then ((rRes n).1, (rRes n).2.1, (rRes n).2.2.1, (rRes n).2.2.2.1) else ((cRes n).1, (cRes n).2.1, (cRes n).2.2.1, (cRes n).2.2.2.1)
def fsOf (kd kn i : Nat) : Nat × Nat × Nat × Nat := if kn.testBit i = true then resT kd i else (0, 0, 0, 0)
def ttOf (kd kn N : Nat) : Nat := fb_sm (fun i => (fsOf kd kn i).2.2.1) N
def fC (ad : Nat → Nat) (FS : Nat → Nat × Nat × Nat × Nat) (i : Nat) : Nat × va_E := (ad i, .inr (1, [.int (nI i), .int (nI (FS i).1), .int (nI (FS i).2.1), .int (nI (FS i).2.2.1), .long (lN (FS i).2.2.2)]))
def fsW (ad : Nat → Nat) (FS : Nat → Nat × Nat × Nat × Nat) : Nat → va_W
  | 0 => []
  | n + 1 => fsW ad FS n ++ [fC ad FS n]
theorem fs_cong {ad ad2 : Nat → Nat} {FS FS2 : Nat → Nat × Nat × Nat × Nat} : ∀ N, (∀ i, i < N → ad i = ad2 i) → (∀ i, i < N → FS i = FS2 i) → fsW ad FS N = fsW ad2 FS2 N
  | 0, _, _ => rfl
  | n + 1, h1, h2 => by
    unfold fsW
    rw [fs_cong n (fun i hi => h1 i (by omega)) (fun i hi => h2 i (by omega))]
    unfold fC
    rw [h1 n (by omega), h2 n (by omega)]
theorem fs_split (ad : Nat → Nat) (FS : Nat → Nat × Nat × Nat × Nat) (n : Nat) : ∀ N, n < N → ∃ L1 L2 : va_W, ∀ FS2, (∀ i, i ≠ n → FS2 i = FS i) → fsW ad FS2 N = L1 ++ (fC ad FS2 n :: L2)
  | 0, h => absurd h (Nat.not_lt_zero n)
  | N + 1, h => by
    by_cases e : n = N
    · subst e
      refine ⟨fsW ad FS n, [], fun FS2 h2 => ?_⟩
      show fsW ad FS2 n ++ [fC ad FS2 n] = fsW ad FS n ++ [fC ad FS2 n]
      rw [fs_cong n (fun _ _ => rfl) (fun i hi => h2 i (by omega))]
    · obtain ⟨L1, L2, hL⟩ := fs_split ad FS n N (by omega)
      refine ⟨L1, L2 ++ [fC ad FS N], fun FS2 h2 => ?_⟩
      show fsW ad FS2 N ++ [fC ad FS2 N] = L1 ++ (fC ad FS2 n :: (L2 ++ [fC ad FS N]))
      have e2 : fC ad FS2 N = fC ad FS N := by unfold fC; rw [h2 N (fun q => e q.symm)]
      rw [hL FS2 h2, List.append_assoc, List.cons_append, e2]
theorem or_tb (kn n i : Nat) : (kn ||| 2 ^ n).testBit i = (kn.testBit i || decide (i = n)) := fb_bit_set kn n i
theorem or_known {kn n : Nat} (h : kn.testBit n = true) : kn ||| 2 ^ n = kn := by
  apply Nat.eq_of_testBit_eq
  intro i
  rw [or_tb]
  by_cases e : i = n
  · rw [e, h]; simp
  · simp [e]
theorem fsOf_at (kd kn n : Nat) : fsOf kd (kn ||| 2 ^ n) n = resT kd n := by
  unfold fsOf
  rw [if_pos (by rw [or_tb]; simp)]
theorem fsOf_ne (kd kn : Nat) {n i : Nat} (h : i ≠ n) : fsOf kd (kn ||| 2 ^ n) i = fsOf kd kn i := by
  unfold fsOf
  rw [or_tb]
  simp [h]
theorem fsOf_un {kd kn n : Nat} (h : kn.testBit n = false) : fsOf kd kn n = (0, 0, 0, 0) := by
  unfold fsOf
  rw [if_neg (by rw [h]; decide)]
theorem tt_step {kd kn n N : Nat} (hn : n < N) (h : kn.testBit n = false) : ttOf kd (kn ||| 2 ^ n) N = ttOf kd kn N + (resT kd n).2.2.1 := by
  unfold ttOf
  have e := fb_sm_upd (fun i => (fsOf kd kn i).2.2.1) ((resT kd n).2.2.1) hn
  have e0 : (fsOf kd kn n).2.2.1 = 0 := by rw [fsOf_un h]
  have e1 : fb_sm (fun i => (fsOf kd (kn ||| 2 ^ n) i).2.2.1) N = fb_sm (fun k => if k = n then (resT kd n).2.2.1 else (fsOf kd kn k).2.2.1) N := fb_sm_cong (fun k _ => by
    by_cases q : k = n
    · rw [if_pos q, q, fsOf_at]
    · rw [if_neg q, fsOf_ne kd kn q])
  rw [e1]
  omega
/-- the searches' object, its row, all that was found -/
def sW (G : GG) (s r : Nat) (ad : Nat → Nat) (kd N kn : Nat) : va_W := (s, .inr (3, [.int (nI kd), .ref r, .int (nI kn), .int (nI (ttOf kd kn N))])) :: (r, .inl (G.2.2.2, N, .inr (.inr (.inr (.inr (fun i => some (ad i))))))) :: fsW ad (fsOf kd kn) N
theorem sr_open {G : GG} {A : Nat → Prop} {H0 H : Heap} {locs : List Loc} {a b c : Nat × va_E} {L1 L2 : va_W} (h : WS G A H0 H locs (a :: b :: (L1 ++ (c :: L2)))) : WS G A H0 H locs (a :: b :: c :: (L2 ++ L1)) := ws_swap (a := [a, b]) (b := L1) (c := c :: L2) h
theorem sr_close {G : GG} {A : Nat → Prop} {H0 H : Heap} {locs : List Loc} {a b c : Nat × va_E} {L1 L2 : va_W} (h : WS G A H0 H locs (a :: b :: c :: (L2 ++ L1))) : WS G A H0 H locs (a :: b :: (L1 ++ (c :: L2))) := ws_swap (a := [a, b]) (b := c :: L2) (c := L1) h
theorem shl1 {n : Nat} (h : n < 31) : (1 : Int32) <<< (nI n &&& 31) = nI (2 ^ n) := by
  have : ∀ n, n < 31 → (1 : Int32) <<< (nI n &&& 31) = nI (2 ^ n) := by decide +kernel
  exact this n h
theorem kn_bit {kn n : Nat} (hk : kn < 2 ^ 31) : nI (kn &&& 2 ^ n) = 0 ↔ kn.testBit n = false := by
  rw [← and_pw]
  exact ⟨fun h => i_eq (b := 0) (Nat.lt_of_le_of_lt Nat.and_le_left hk) (by decide) h, fun h => by rw [h]; rfl⟩
theorem res_r (n : Nat) : resT 0 n = ((rRes n).1, (rRes n).2.1, (rRes n).2.2.1, (rRes n).2.2.2.1) := rfl
theorem res_c (n : Nat) : resT 1 n = ((cRes n).1, (cRes n).2.1, (cRes n).2.2.1, (cRes n).2.2.2.1) := rfl
theorem sr_end {G : GG} {A : Nat → Prop} {H0 H : Heap} {locs : List Loc} {s r : Nat} {ad : Nat → Nat} {kd N kn n : Nat} {L1 L2 : va_W} (hn : n < N) (hb : kn.testBit n = false) (hsp : ∀ FS2, (∀ i, i ≠ n → FS2 i = fsOf kd kn i) → fsW ad FS2 N = L1 ++ (fC ad FS2 n :: L2)) {z : Nat × Nat × Nat × Nat} (hz : z = resT kd n)
    (h : WS G A H0 H locs ((s, .inr (3, [.int (nI kd), .ref r, .int (nI (kn ||| 2 ^ n)), .int (nI (ttOf kd kn N + z.2.2.1))])) :: (r, .inl (G.2.2.2, N, .inr (.inr (.inr (.inr (fun i => some (ad i))))))) :: (ad n, .inr (1, [.int (nI n), .int (nI z.1), .int (nI z.2.1), .int (nI z.2.2.1), .long (lN z.2.2.2)])) :: (L2 ++ L1))) : WS G A H0 H locs (sW G s r ad kd N (kn ||| 2 ^ n)) := by
  have h1 := sr_close h
  unfold sW
  rw [hsp _ (fun i hi => fsOf_ne kd kn hi), tt_step hn hb]
  unfold fC
  dsimp only
  rw [fsOf_at, ← hz]
  exact h1
