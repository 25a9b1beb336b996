/-! The class's full world (a: its addresses), what is known of it, and a call in the law. -/
theorem upd_at (f : Nat → Int32) (n : Nat) (v : Int32) : upd f n v n = v := by unfold upd; rw [if_pos rfl]
def cW (G : GG) (a ar ac : Nat → Nat) (m : Nat) (er sk : Nat → Int32) (m1 : Nat) (er1 sk1 : Nat → Int32) (m2 : Nat) (er2 sk2 st be : Nat → Int32) (nx cn : Nat) (ik un tp : Int32) (kr kc : Nat) : va_W :=
  [(a 0, .inr (4, [.ref (a 1), .ref (a 4), .ref (a 7), .ref (a 10), .ref (a 13), .ref (a 15), .int ik, .int un, .int tp])), (a 1, .inr (0, [.long (lN m), .ref (a 2), .ref (a 3)])), (a 2, .inl (G.2.1, 61, .inl er)), (a 3, .inl (G.2.1, 61, .inl sk)), (a 4, .inr (0, [.long (lN m1), .ref (a 5), .ref (a 6)])), (a 5, .inl (G.2.1, 61, .inl er1)), (a 6, .inl (G.2.1, 61, .inl sk1)), (a 7, .inr (0, [.long (lN m2), .ref (a 8), .ref (a 9)])), (a 8, .inl (G.2.1, 61, .inl er2)), (a 9, .inl (G.2.1, 61, .inl sk2)), (a 10, .inr (2, [.ref (a 11), .ref (a 12), .int (nI nx), .int (nI cn)])), (a 11, .inl (G.2.1, 16, .inl st)), (a 12, .inl (G.2.1, 16, .inl be))] ++ (sW G (a 13) (a 14) ar 0 8 kr ++ sW G (a 15) (a 16) ac 1 21 kc)
theorem ct_fr {l : Launch} {G : GG} {y : MethodName} {ws : List Cond} {rm : Room} {av : List Value} {w0 : va_W} {Post : Option Value → va_W → Prop} {mc ms : Nat} (hC : CT l G y ws rm av w0 Post mc ms) (fr : va_W) {W0 : va_W} (hp : (w0 ++ fr).Perm W0) : CT l G y ws rm av W0 (fun r w => ∃ w1, Post r w1 ∧ (w1 ++ fr).Perm w) mc ms :=
  ct_fp hC fr hp (fun r w1 h => ⟨w1 ++ fr, List.Perm.refl _, w1, h, List.Perm.refl _⟩)
theorem p_tl {w0 fr L T : va_W} (h : (w0 ++ fr).Perm L) : (w0 ++ (fr ++ T)).Perm (L ++ T) := by
  rw [← List.append_assoc]
  exact h.append_right T
theorem p_s0 {w0 fr L S T : va_W} (h : (w0 ++ fr).Perm L) : ((w0 ++ S) ++ (fr ++ T)).Perm (L ++ (S ++ T)) := (p_abcd w0 S fr T).trans (h.append_right _)
theorem p_s1 {w0 fr L S T : va_W} (h : (w0 ++ fr).Perm L) : ((w0 ++ T) ++ (fr ++ S)).Perm (L ++ (S ++ T)) := (p_abcd w0 T fr S).trans (h.append List.perm_append_comm)
theorem p_td {w0 fr L S T : va_W} {p q : Nat × va_E} (h : (w0 ++ fr).Perm L) : ((w0 ++ [p, q]) ++ (fr ++ (S ++ T))).Perm (L ++ ((p :: S) ++ (q :: T))) := (p_abcd w0 [p, q] fr (S ++ T)).trans (h.append (p_abcd [p] [q] S T))
def lgC (st be : Nat → Int32) : Nat → List (Nat × Int32) → Prop
  | _, [] => True
  | nx, (k, b) :: t => st ((nx + 15) % 16) = nI k ∧ be ((nx + 15) % 16) = b ∧ lgC st be ((nx + 15) % 16) t
theorem bcm_back {m k : Nat} {v b : Int32} (h : b = -6 ↔ m.testBit k = false) : bcm (bcm m k v) k b = m := by
  apply Nat.eq_of_testBit_eq
  intro j
  rw [bcm_tb]
  by_cases e : j = k
  · subst e
    rw [if_pos rfl]
    by_cases hb : b = -6
    · rw [decide_eq_true hb, h.mp hb]
      rfl
    · rw [decide_eq_false hb]
      cases hm : m.testBit j with
      | true => rfl
      | false => exact absurd (h.mpr hm) hb
  · rw [if_neg e, bcm_tb, if_neg e]
theorem pc_bcm (m k : Nat) (v : Int32) (hk : k ≤ 60) : pcN 64 (bcm m k v) + (if m.testBit k = true then 1 else 0) = pcN 64 m + (if v = -6 then 0 else 1) := by
  have h1 := fb_ct_upd (fun j => m.testBit j) (!decide (v = -6)) (i := k) (n := 64) (by omega)
  have h2 : pcN 64 (bcm m k v) = fb_ct (fun j => if j = k then !decide (v = -6) else m.testBit j) 64 := fb_ct_cong (fun j _ => bcm_tb m k v j)
  have h3 : pcN 64 m = fb_ct (fun j => m.testBit j) 64 := rfl
  rw [h2, h3, h1]
  congr 1
  by_cases hv : v = -6
  · simp [hv]
  · simp [hv]
theorem lgC_up {st be : Nat → Int32} {p : Nat} {v w : Int32} (hp : p < 16) : ∀ (lg : List (Nat × Int32)) (nx : Nat), nx < 16 → lg.length ≤ (nx + 31 - p) % 16 → lgC st be nx lg → lgC (upd st p v) (upd be p w) nx lg
  | [], _, _, _, _ => trivial
  | (k, b) :: t, nx, hn, hl, h => by
    obtain ⟨h1, h2, h3⟩ := h
    have hl2 : t.length + 1 ≤ (nx + 31 - p) % 16 := hl
    have hne : (nx + 15) % 16 ≠ p := by omega
    refine ⟨?_, ?_, lgC_up hp t _ (Nat.mod_lt _ (by decide)) (by omega) h3⟩
    · unfold upd
      rw [if_neg hne]
      exact h1
    · unfold upd
      rw [if_neg hne]
      exact h2
theorem lgC_dl {st be : Nat → Int32} : ∀ (lg : List (Nat × Int32)) (nx : Nat), lgC st be nx lg → lgC st be nx lg.dropLast
  | [], _, _ => trivial
  | [_], _, _ => trivial
  | (k, b) :: y :: t, nx, h => by
    show lgC st be nx ((k, b) :: (y :: t).dropLast)
    exact ⟨h.1, h.2.1, lgC_dl (y :: t) _ h.2.2⟩
def lgN (x : Nat × Int32) (lg : List (Nat × Int32)) : List (Nat × Int32) := x :: (if lg.length = 16 then lg.dropLast else lg)
theorem lgN_len {x : Nat × Int32} {lg : List (Nat × Int32)} (h : lg.length ≤ 16) : (lgN x lg).length = lgc lg.length := by
  unfold lgN lgc
  by_cases e : lg.length = 16
  · rw [if_pos e, if_neg (by omega), List.length_cons, List.length_dropLast]
    omega
  · rw [if_neg e, if_pos (by omega), List.length_cons]
theorem kn_lt {kn n N : Nat} (h : kn < 2 ^ N) (hn : n < N) : kn ||| 2 ^ n < 2 ^ N := Nat.or_lt_two_pow h (Nat.pow_lt_pow_right (by decide) hn)
theorem put_in {m : Nat} {x : Int32} (h : putOk m x = true) : ∃ k, k ≤ 60 ∧ x = nI k ∧ m.testBit k = false ∧ pcN 64 m < 12 := by
  unfold putOk at h
  rw [Bool.and_eq_true, Bool.and_eq_true, decide_eq_true_eq] at h
  obtain ⟨k, hk, rfl⟩ := inS_of h.1
  refine ⟨k, hk, rfl, ?_, h.2.2⟩
  have h2 := h.2.1
  rw [stn_nI hk] at h2
  simpa using h2
theorem err_in {m : Nat} {x v : Int32} (h : errOk m x v = true) : ∃ k, k ≤ 60 ∧ x = nI k ∧ m.testBit k = true ∧ v ≠ -6 := by
  unfold errOk at h
  rw [Bool.and_eq_true] at h
  obtain ⟨k, hk, rfl, hb⟩ := stn_in h.1
  refine ⟨k, hk, rfl, hb, fun z => ?_⟩
  rw [z] at h
  exact absurd h.2 (by decide)
theorem bcm_same {m k : Nat} {v : Int32} (hb : m.testBit k = true) (hv : v ≠ -6) : bcm m k v = m := by
  apply Nat.eq_of_testBit_eq
  intro j
  rw [bcm_tb]
  by_cases e : j = k
  · rw [if_pos e, e, hb, decide_eq_false hv]
    rfl
  · rw [if_neg e]
theorem fa_upd_ne {f : Nat → Int32} {i j : Nat} {v : Int32} (h : j ≠ i) : upd f i v j = f j := by
  unfold upd
  rw [if_neg h]
theorem pc_0 {c0 c1 c2 c3 c4 c5 c6 c7 c8 c9 c10 c11 c12 : Nat × va_E} : ([c0, c1, c2, c3, c10, c11, c12] ++ [c4, c5, c6, c7, c8, c9]).Perm [c0, c1, c2, c3, c4, c5, c6, c7, c8, c9, c10, c11, c12] := p_idx 13 [0, 1, 2, 3, 10, 11, 12, 4, 5, 6, 7, 8, 9] rfl rfl rfl
theorem pc_1 {c0 c1 c2 c3 c4 c5 c6 c7 c8 c9 c10 c11 c12 : Nat × va_E} : ([c0, c1, c2, c3] ++ [c4, c5, c6, c7, c8, c9, c10, c11, c12]).Perm [c0, c1, c2, c3, c4, c5, c6, c7, c8, c9, c10, c11, c12] := p_idx 13 [0, 1, 2, 3, 4, 5, 6, 7, 8, 9, 10, 11, 12] rfl rfl rfl
theorem pc_2 {c0 c1 c2 c3 c4 c5 c6 c7 c8 c9 c10 c11 c12 : Nat × va_E} : ([c0] ++ [c1, c2, c3, c4, c5, c6, c7, c8, c9, c10, c11, c12]).Perm [c0, c1, c2, c3, c4, c5, c6, c7, c8, c9, c10, c11, c12] := p_idx 13 [0, 1, 2, 3, 4, 5, 6, 7, 8, 9, 10, 11, 12] rfl rfl rfl
theorem pc_3 {c0 c1 c2 c3 c4 c5 c6 c7 c8 c9 c10 c11 c12 : Nat × va_E} : ([c0, c1, c2, c3, c4, c5, c6] ++ [c7, c8, c9, c10, c11, c12]).Perm [c0, c1, c2, c3, c4, c5, c6, c7, c8, c9, c10, c11, c12] := p_idx 13 [0, 1, 2, 3, 4, 5, 6, 7, 8, 9, 10, 11, 12] rfl rfl rfl
theorem pc_5 {c0 c1 c2 c3 c4 c5 c6 c7 c8 c9 c10 c11 c12 : Nat × va_E} : ([c0, c1, c2, c3, c10, c11, c12, c4, c5, c6] ++ [c7, c8, c9]).Perm [c0, c1, c2, c3, c4, c5, c6, c7, c8, c9, c10, c11, c12] := p_idx 13 [0, 1, 2, 3, 10, 11, 12, 4, 5, 6, 7, 8, 9] rfl rfl rfl
theorem kn_shr {kn n : Nat} (hk : kn < 2 ^ 31) (hn : n < 31) : (nI kn >>> (nI n &&& 31)) &&& 1 = nI (kn / 2 ^ n % 2) := by
  rw [pk_shrN hk _ n (s_l n (by omega))]
  exact fa_mask _ 1
theorem kn_one {kn n : Nat} (h : nI (kn / 2 ^ n % 2) = 1) : kn.testBit n = true := by
  have := i_eq (b := 1) (by omega) (by decide) h
  rw [Nat.testBit_eq_decide_div_mod_eq]
  simp [this]
theorem kn_zero {kn n : Nat} (h : ¬ nI (kn / 2 ^ n % 2) = 1) : kn.testBit n = false := by
  have := i_ne (b := 1) h
  rw [Nat.testBit_eq_decide_div_mod_eq]
  simp [this]
/-- the marks; the errors, the skies; the log; the first image; how often was undone, a phase told; the searches known -/
abbrev SS : Type := Nat × (Nat → Int32) × (Nat → Int32) × List (Nat × Int32) × (Nat × (Nat → Int32) × (Nat → Int32) × Int32) × Nat × Nat × Nat × Nat
def Dw (G : GG) (a ar ac : Nat → Nat) (S : SS) (w : va_W) : Prop := ∃ (m2 : Nat) (er2 sk2 st be : Nat → Int32) (nx : Nat), w = cW G a ar ac S.1 S.2.1 S.2.2.1 S.2.2.2.2.1.1 S.2.2.2.2.1.2.1 S.2.2.2.2.1.2.2.1 m2 er2 sk2 st be nx S.2.2.2.1.length S.2.2.2.2.1.2.2.2 (nI S.2.2.2.2.2.1) (nI S.2.2.2.2.2.2.1) S.2.2.2.2.2.2.2.1 S.2.2.2.2.2.2.2.2 ∧ S.1 < 2 ^ 61 ∧ S.2.2.2.2.1.1 < 2 ^ 61 ∧ nx < 16 ∧ S.2.2.2.1.length ≤ 16 ∧ lgC st be nx S.2.2.2.1 ∧ (∀ q ∈ S.2.2.2.1, q.1 ≤ 60) ∧ S.2.2.2.2.2.2.2.1 < 2 ^ 8 ∧ S.2.2.2.2.2.2.2.2 < 2 ^ 21
theorem dw_0 {G : GG} {a ar ac : Nat → Nat} {S : SS} {w : va_W} (h : Dw G a ar ac S w) : ∃ fs : List Value, w[0]? = some (a 0, .inr (4, fs)) := by
  obtain ⟨m2, er2, sk2, st, be, nx, rfl, -⟩ := h
  exact ⟨_, rfl⟩
/-- one call: its answer, and what holds behind it -/
def OP (l : Launch) (G : GG) (a : Nat → Nat) (y : MethodName) (ws : List Cond) (rm : Room) (As : List Value) (w : va_W) (ans : Int32) (D : va_W → Prop) : Prop := ∃ Post : Option Value → va_W → Prop, CT l G y ws rm (.ref (a 0) :: As) w Post 0 0 ∧ ∀ r w1, Post r w1 → r = some (.int ans) ∧ ∃ w2 : va_W, w1.Perm w2 ∧ D w2
theorem lgN_in {k : Nat} {b : Int32} {lg : List (Nat × Int32)} (hk : k ≤ 60) (h : ∀ q ∈ lg, q.1 ≤ 60) : ∀ q ∈ lgN (k, b) lg, q.1 ≤ 60 := by
  intro q hq
  unfold lgN at hq
  rcases List.mem_cons.mp hq with e | e
  · rw [e]; exact hk
  · split at e
    · exact h q ((List.dropLast_sublist lg).subset e)
    · exact h q e
theorem lgN_C {st be : Nat → Int32} {k nx : Nat} {b : Int32} {lg : List (Nat × Int32)} (h2 : nx < 16) (h1 : lg.length ≤ 16) (h4 : lgC st be nx lg) : lgC (upd st nx (nI k)) (upd be nx b) ((nx + 1) % 16) (lgN (k, b) lg) := by
  have e1 : ((nx + 1) % 16 + 15) % 16 = nx := by omega
  have h6 : lgC st be nx (if lg.length = 16 then lg.dropLast else lg) := by
    split
    · exact lgC_dl _ _ h4
    · exact h4
  have h7 : (if lg.length = 16 then lg.dropLast else lg).length ≤ 15 := by
    split
    · rw [List.length_dropLast]
      omega
    · omega
  unfold lgN
  refine ⟨?_, ?_, ?_⟩
  · rw [e1]
    exact upd_at _ _ _
  · rw [e1]
    exact upd_at _ _ _
  · rw [e1]
    exact lgC_up h2 _ nx h2 (by omega) h6
theorem lgN_le {x : Nat × Int32} {lg : List (Nat × Int32)} (h : lg.length ≤ 16) : (lgN x lg).length ≤ 16 := by
  rw [lgN_len h]
  unfold lgc
  split <;> omega
