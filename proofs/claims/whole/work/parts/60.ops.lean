/-! Each call on both sides. -/
theorem put_in {m : Nat} {x : Int32} (h : putOk m x = true) : ∃ k, k ≤ 60 ∧ x = nI k ∧ m.testBit k = false ∧ pcN 64 m < 12 := by
  unfold putOk at h
  rw [Bool.and_eq_true, Bool.and_eq_true, decide_eq_true_eq] at h
  obtain ⟨k, hk, rfl⟩ := inS_of h.1
  refine ⟨k, hk, rfl, ?_, h.2.2⟩
  have h2 := h.2.1
  rw [stn_nI hk] at h2
  simpa using h2
theorem err_in {m : Nat} {x v : Int32} (h : errOk m x v = true) : ∃ k, k ≤ 60 ∧ x = nI k ∧ m.testBit k = true ∧ v ≠ -6 := by
  unfold errOk at h
  rw [Bool.and_eq_true] at h
  obtain ⟨k, hk, rfl, hb⟩ := stn_in h.1
  refine ⟨k, hk, rfl, hb, fun z => ?_⟩
  rw [z] at h
  exact absurd h.2 (by decide)
theorem pc_put {m k : Nat} (hk : k ≤ 60) (hb : m.testBit k = false) (h : pcN 64 m < 12) : pcN 64 (bcm m k 0) ≤ 12 := by
  have h1 := pc_bcm m k 0 hk
  rw [hb, if_neg (by decide), if_neg (by decide)] at h1
  omega
theorem pc_lift {m k : Nat} (hk : k ≤ 60) (h : pcN 64 m ≤ 12) : pcN 64 (bcm m k (-6)) ≤ 12 := by
  have h1 := pc_bcm m k (-6) hk
  rw [if_pos (show (-6 : Int32) = -6 from rfl)] at h1
  omega
theorem pc_err {m k : Nat} {v : Int32} (hk : k ≤ 60) (hb : m.testBit k = true) (h : pcN 64 m ≤ 12) : pcN 64 (bcm m k v) ≤ 12 := by
  have h1 := pc_bcm m k v hk
  rw [hb, if_pos rfl] at h1
  have h2 : (if v = -6 then 0 else 1) ≤ 1 := by split <;> omega
  omega
theorem bcm_same {m k : Nat} {v : Int32} (hb : m.testBit k = true) (hv : v ≠ -6) : bcm m k v = m := by
  apply Nat.eq_of_testBit_eq
  intro j
  rw [bcm_tb]
  by_cases e : j = k
  · rw [if_pos e, e, hb, decide_eq_false hv]
    rfl
  · rw [if_neg e]
theorem inR_ok0 {n : Nat} (h : okN 0 n) : inR 0 (nI n) = true := by
  rcases h with ⟨-, h1, h2⟩ | ⟨h, -⟩
  · rcases (show n = 2 ∨ n = 3 ∨ n = 4 ∨ n = 5 ∨ n = 6 ∨ n = 7 by omega) with rfl | rfl | rfl | rfl | rfl | rfl <;> decide
  · cases h
theorem ok_20 : ∀ n, n < 21 → 1 ≤ n → inR 1 (nI n) = true := by decide
theorem inR_ok1 {n : Nat} (h : okN 1 n) : inR 1 (nI n) = true := by
  rcases h with ⟨h, -⟩ | ⟨-, h1, h2⟩
  · cases h
  · exact ok_20 n (by omega) h1
theorem ok_lt {kd n : Nat} (h : okN kd n) : n < 2 ^ 31 := by
  rcases h with ⟨-, h1, h2⟩ | ⟨-, h1, h2⟩ <;> omega
theorem fa_upd_ne {f : Nat → Int32} {i j : Nat} {v : Int32} (h : j ≠ i) : upd f i v j = f j := by
  unfold upd
  rw [if_neg h]
theorem pc_0 {c0 c1 c2 c3 c4 c5 c6 c7 c8 c9 c10 c11 c12 : Nat × va_E} : ([c0, c1, c2, c3, c10, c11, c12] ++ [c4, c5, c6, c7, c8, c9]).Perm [c0, c1, c2, c3, c4, c5, c6, c7, c8, c9, c10, c11, c12] := p_idx 13 [0, 1, 2, 3, 10, 11, 12, 4, 5, 6, 7, 8, 9] rfl rfl rfl
theorem pm_0 {c0 c1 c2 c3 c4 c5 c6 c7 c8 c9 c10 c11 c12 c13 c14 c15 c16 c17 c18 : Nat × va_E} : ([c0, c1, c2, c4, c5, c6] ++ [c3, c7, c8, c9, c10, c11, c12, c13, c14, c15, c16, c17, c18]).Perm [c0, c1, c2, c3, c4, c5, c6, c7, c8, c9, c10, c11, c12, c13, c14, c15, c16, c17, c18] := p_idx 19 [0, 1, 2, 4, 5, 6, 3, 7, 8, 9, 10, 11, 12, 13, 14, 15, 16, 17, 18] rfl rfl rfl
theorem pc_1 {c0 c1 c2 c3 c4 c5 c6 c7 c8 c9 c10 c11 c12 : Nat × va_E} : ([c0, c1, c2, c3] ++ [c4, c5, c6, c7, c8, c9, c10, c11, c12]).Perm [c0, c1, c2, c3, c4, c5, c6, c7, c8, c9, c10, c11, c12] := p_idx 13 [0, 1, 2, 3, 4, 5, 6, 7, 8, 9, 10, 11, 12] rfl rfl rfl
theorem pm_1 {c0 c1 c2 c3 c4 c5 c6 c7 c8 c9 c10 c11 c12 c13 c14 c15 c16 c17 c18 : Nat × va_E} : ([c0, c1] ++ [c2, c3, c4, c5, c6, c7, c8, c9, c10, c11, c12, c13, c14, c15, c16, c17, c18]).Perm [c0, c1, c2, c3, c4, c5, c6, c7, c8, c9, c10, c11, c12, c13, c14, c15, c16, c17, c18] := p_idx 19 [0, 1, 2, 3, 4, 5, 6, 7, 8, 9, 10, 11, 12, 13, 14, 15, 16, 17, 18] rfl rfl rfl
theorem pm_2 {c0 c1 c2 c3 c4 c5 c6 c7 c8 c9 c10 c11 c12 c13 c14 c15 c16 c17 c18 : Nat × va_E} : ([c0, c1, c2, c3] ++ [c4, c5, c6, c7, c8, c9, c10, c11, c12, c13, c14, c15, c16, c17, c18]).Perm [c0, c1, c2, c3, c4, c5, c6, c7, c8, c9, c10, c11, c12, c13, c14, c15, c16, c17, c18] := p_idx 19 [0, 1, 2, 3, 4, 5, 6, 7, 8, 9, 10, 11, 12, 13, 14, 15, 16, 17, 18] rfl rfl rfl
theorem pm_3 {c0 c1 c2 c3 c4 c5 c6 c7 c8 c9 c10 c11 c12 c13 c14 c15 c16 c17 c18 : Nat × va_E} : ([c0, c3] ++ [c1, c2, c4, c5, c6, c7, c8, c9, c10, c11, c12, c13, c14, c15, c16, c17, c18]).Perm [c0, c1, c2, c3, c4, c5, c6, c7, c8, c9, c10, c11, c12, c13, c14, c15, c16, c17, c18] := p_idx 19 [0, 3, 1, 2, 4, 5, 6, 7, 8, 9, 10, 11, 12, 13, 14, 15, 16, 17, 18] rfl rfl rfl
theorem pc_2 {c0 c1 c2 c3 c4 c5 c6 c7 c8 c9 c10 c11 c12 : Nat × va_E} : ([c0] ++ [c1, c2, c3, c4, c5, c6, c7, c8, c9, c10, c11, c12]).Perm [c0, c1, c2, c3, c4, c5, c6, c7, c8, c9, c10, c11, c12] := p_idx 13 [0, 1, 2, 3, 4, 5, 6, 7, 8, 9, 10, 11, 12] rfl rfl rfl
theorem pm_4 {c0 c1 c2 c3 c4 c5 c6 c7 c8 c9 c10 c11 c12 c13 c14 c15 c16 c17 c18 : Nat × va_E} : ([c0, c15, c16, c7, c8, c9, c10] ++ [c1, c2, c3, c4, c5, c6, c11, c12, c13, c14, c17, c18]).Perm [c0, c1, c2, c3, c4, c5, c6, c7, c8, c9, c10, c11, c12, c13, c14, c15, c16, c17, c18] := p_idx 19 [0, 15, 16, 7, 8, 9, 10, 1, 2, 3, 4, 5, 6, 11, 12, 13, 14, 17, 18] rfl rfl rfl
theorem pm_5 {c0 c1 c2 c3 c4 c5 c6 c7 c8 c9 c10 c11 c12 c13 c14 c15 c16 c17 c18 : Nat × va_E} : ([c0, c15, c16, c7, c8, c9, c10, c1, c2] ++ [c3, c4, c5, c6, c11, c12, c13, c14, c17, c18]).Perm [c0, c1, c2, c3, c4, c5, c6, c7, c8, c9, c10, c11, c12, c13, c14, c15, c16, c17, c18] := p_idx 19 [0, 15, 16, 7, 8, 9, 10, 1, 2, 3, 4, 5, 6, 11, 12, 13, 14, 17, 18] rfl rfl rfl
theorem pm_6 {c0 c1 c2 c3 c4 c5 c6 c7 c8 c9 c10 c11 c12 c13 c14 c15 c16 c17 c18 : Nat × va_E} : ([c0, c15, c16, c11, c12, c13, c14] ++ [c1, c2, c3, c4, c5, c6, c7, c8, c9, c10, c17, c18]).Perm [c0, c1, c2, c3, c4, c5, c6, c7, c8, c9, c10, c11, c12, c13, c14, c15, c16, c17, c18] := p_idx 19 [0, 15, 16, 11, 12, 13, 14, 1, 2, 3, 4, 5, 6, 7, 8, 9, 10, 17, 18] rfl rfl rfl
theorem pm_7 {c0 c1 c2 c3 c4 c5 c6 c7 c8 c9 c10 c11 c12 c13 c14 c15 c16 c17 c18 : Nat × va_E} : ([c0, c15, c16, c11, c12, c13, c14, c1, c2] ++ [c3, c4, c5, c6, c7, c8, c9, c10, c17, c18]).Perm [c0, c1, c2, c3, c4, c5, c6, c7, c8, c9, c10, c11, c12, c13, c14, c15, c16, c17, c18] := p_idx 19 [0, 15, 16, 11, 12, 13, 14, 1, 2, 3, 4, 5, 6, 7, 8, 9, 10, 17, 18] rfl rfl rfl
theorem pm_8 {c0 c1 c2 c3 c4 c5 c6 c7 c8 c9 c10 c11 c12 c13 c14 c15 c16 c17 c18 : Nat × va_E} : ([c0] ++ [c1, c2, c3, c4, c5, c6, c7, c8, c9, c10, c11, c12, c13, c14, c15, c16, c17, c18]).Perm [c0, c1, c2, c3, c4, c5, c6, c7, c8, c9, c10, c11, c12, c13, c14, c15, c16, c17, c18] := p_idx 19 [0, 1, 2, 3, 4, 5, 6, 7, 8, 9, 10, 11, 12, 13, 14, 15, 16, 17, 18] rfl rfl rfl
theorem pc_3 {c0 c1 c2 c3 c4 c5 c6 c7 c8 c9 c10 c11 c12 : Nat × va_E} : ([c0, c1, c2, c3, c4, c5, c6] ++ [c7, c8, c9, c10, c11, c12]).Perm [c0, c1, c2, c3, c4, c5, c6, c7, c8, c9, c10, c11, c12] := p_idx 13 [0, 1, 2, 3, 4, 5, 6, 7, 8, 9, 10, 11, 12] rfl rfl rfl
theorem pm_9 {c0 c1 c2 c3 c4 c5 c6 c7 c8 c9 c10 c11 c12 c13 c14 c15 c16 c17 c18 : Nat × va_E} : ([c0, c1, c2, c3, c17, c18] ++ [c4, c5, c6, c7, c8, c9, c10, c11, c12, c13, c14, c15, c16]).Perm [c0, c1, c2, c3, c4, c5, c6, c7, c8, c9, c10, c11, c12, c13, c14, c15, c16, c17, c18] := p_idx 19 [0, 1, 2, 3, 17, 18, 4, 5, 6, 7, 8, 9, 10, 11, 12, 13, 14, 15, 16] rfl rfl rfl
theorem pc_4 {c0 c1 c2 c3 c4 c5 c6 c7 c8 c9 c10 c11 c12 : Nat × va_E} : ([c0, c1, c2, c3, c7, c8, c9] ++ [c4, c5, c6, c10, c11, c12]).Perm [c0, c1, c2, c3, c4, c5, c6, c7, c8, c9, c10, c11, c12] := p_idx 13 [0, 1, 2, 3, 7, 8, 9, 4, 5, 6, 10, 11, 12] rfl rfl rfl
theorem pc_5 {c0 c1 c2 c3 c4 c5 c6 c7 c8 c9 c10 c11 c12 : Nat × va_E} : ([c0, c1, c2, c3, c10, c11, c12, c4, c5, c6] ++ [c7, c8, c9]).Perm [c0, c1, c2, c3, c4, c5, c6, c7, c8, c9, c10, c11, c12] := p_idx 13 [0, 1, 2, 3, 10, 11, 12, 4, 5, 6, 7, 8, 9] rfl rfl rfl
theorem pc_6 {c0 c1 c2 c3 c4 c5 c6 c7 c8 c9 c10 c11 c12 : Nat × va_E} : ([c0, c1, c2, c3, c10, c11, c12, c7, c8, c9] ++ [c4, c5, c6]).Perm [c0, c1, c2, c3, c4, c5, c6, c7, c8, c9, c10, c11, c12] := p_idx 13 [0, 1, 2, 3, 10, 11, 12, 7, 8, 9, 4, 5, 6] rfl rfl rfl
set_option maxHeartbeats 4000000 in
set_option maxRecDepth 100000 in
theorem o_put {l : Launch} {G : GG} {a ar ac b : Nat → Nat} {wc wm : va_W} (x : Int32) (hI : Inv G a ar ac b wc wm) : okOp l G a ar ac b yX7_put yX8_put wsX7_put wsX8_put ({ frames := 4, cells := 0, slots := 0, locals := 87 } : Room) ({ frames := 2, cells := 0, slots := 0, locals := 46 } : Room) [.int x] wc wm := by
  obtain ⟨m, er, em, sk, sm, lg, st, be, nx, f1, f2, f3, ik, m1, er1, sk1, m2, er2, sk2, kp, iqf, un, tp, kr, kc, mf, nf, rkv, ckv, ka, wr, rfl, rfl, hd, hs, hg, hik, hi0, hi1, hk⟩ := hI
  refine ⟨_, _, ct_fr (c_X7_put l G (a 0) (a 4) (a 7) (a 13) (a 15) (nI ik) un tp (a 1) (a 2) (a 3) m er sk (a 10) (a 11) (a 12) st be nx lg.length x (hd.1) (hg.2.1) (hg.1)) ([(a 4, .inr (0, [.long (lN m1), .ref (a 5), .ref (a 6)])), (a 5, .inl (G.2.1, 61, .inl er1)), (a 6, .inl (G.2.1, 61, .inl sk1)), (a 7, .inr (0, [.long (lN m2), .ref (a 8), .ref (a 9)])), (a 8, .inl (G.2.1, 61, .inl er2)), (a 9, .inl (G.2.1, 61, .inl sk2))] ++ (sW G (a 13) (a 14) ar 0 8 kr ++ sW G (a 15) (a 16) ac 1 21 kc)) (p_tl pc_0), ct_fr (c_X8_put l G (b 0) (b 1) (b 2) (b 3) (b 4) (b 5) (b 6) (b 7) (b 8) (b 9) (b 10) (b 11) (b 12) (b 13) (b 14) (b 15) (b 16) (b 17) (b 18) un tp (nI kr) (nI kc) (nI (pcN 32 kr + pcN 32 kc)) (nI (ttOf 0 kr 8 + ttOf 1 kc 21)) ka wr lg.length m em f1 f2 f3 x (hd.1) (hg.1) (hd.2.1)) [(b 3, .inl (G.2.1, 61, .inl sm)), (b 7, .inl (G.2.1, 8, .inl (sbF 0 kr))), (b 8, .inl (G.2.1, 8, .inl (snF 0 kr))), (b 9, .inl (G.2.1, 8, .inl (stF 0 kr))), (b 10, .inl (G.2.1, 96, .inl rkv)), (b 11, .inl (G.2.1, 21, .inl (sbF 1 kc))), (b 12, .inl (G.2.1, 21, .inl (snF 1 kc))), (b 13, .inl (G.2.1, 21, .inl (stF 1 kc))), (b 14, .inl (G.2.1, 252, .inl ckv)), (b 15, .inl (G.2.1, 12, .inl mf)), (b 16, .inl (G.2.1, 12, .inl nf)), (b 17, .inl (G.2.1, 366, .inl kp)), (b 18, .inl (G.2.2.1, 2, .inl iqf))] pm_0, ?_, ?_⟩
  · rintro r1 w1 ⟨v1, P1, p1⟩
    exact ⟨_, P1.1⟩
  rintro r1 w1 r2 w2 ⟨v1, P1, p1⟩ ⟨v2, P2, p2⟩
  obtain ⟨rfl, Q1⟩ := P1
  obtain ⟨rfl, Q2⟩ := P2
  rcases Q1 with ⟨h1, rfl⟩ | ⟨h1, rfl⟩
  · rcases Q2 with ⟨h2, rfl⟩ | ⟨h2, rfl⟩
    · exact ⟨_, rfl, rfl, _, _, p1.symm.trans (p_tl pc_0), p2.symm.trans pm_0, m, er, em, sk, sm, lg, st, be, nx, f1, f2, f3, ik, m1, er1, sk1, m2, er2, sk2, kp, iqf, un, tp, kr, kc, mf, nf, rkv, ckv, ka, wr, rfl, rfl, hd, hs, hg, hik, hi0, hi1, hk⟩
    · rw [h1] at h2
      cases h2
  · rcases Q2 with ⟨h2, rfl⟩ | ⟨h2, rfl⟩
    · rw [h1] at h2
      cases h2
    · obtain ⟨k, hk0, rfl, hb, hlt⟩ := put_in h1
      rw [cl_k hk0, ← lgN_len (x := (k, er k)) hg.1] at p1 p2
      exact ⟨_, rfl, rfl, _, _, p1.symm.trans (p_tl pc_0), p2.symm.trans pm_0, bcm m k 0, upd er k 0, upd em k 0, sk, sm, lgN (k, er k) lg, upd st nx (nI k), upd be nx (er k), (nx + 1) % 16, lgA lg.length f1 0, lgA lg.length f2 (nI k), lgA lg.length f3 0, ik, m1, er1, sk1, m2, er2, sk2, kp, iqf, un, tp, kr, kc, mf, nf, rkv, ckv, ka, wr, rfl, rfl, dR_upd hd hk0 (pc_put hk0 hb hlt) (fun _ => rfl), hs, gR_add hg hk0 (bcm_back (dR_iff hd hk0)) hd.2.1 ⟨fun _ => dR_no hd hk0 hb, fun _ => rfl⟩ (fun z => absurd (dR_no hd hk0 hb) z), hik, hi0, hi1, hk⟩

set_option maxHeartbeats 4000000 in
set_option maxRecDepth 100000 in
theorem o_lift {l : Launch} {G : GG} {a ar ac b : Nat → Nat} {wc wm : va_W} (x : Int32) (hI : Inv G a ar ac b wc wm) : okOp l G a ar ac b yX7_lift yX8_lift wsX7_lift wsX8_lift ({ frames := 4, cells := 0, slots := 0, locals := 87 } : Room) ({ frames := 2, cells := 0, slots := 0, locals := 46 } : Room) [.int x] wc wm := by
  obtain ⟨m, er, em, sk, sm, lg, st, be, nx, f1, f2, f3, ik, m1, er1, sk1, m2, er2, sk2, kp, iqf, un, tp, kr, kc, mf, nf, rkv, ckv, ka, wr, rfl, rfl, hd, hs, hg, hik, hi0, hi1, hk⟩ := hI
  refine ⟨_, _, ct_fr (c_X7_lift l G (a 0) (a 4) (a 7) (a 13) (a 15) (nI ik) un tp (a 1) (a 2) (a 3) m er sk (a 10) (a 11) (a 12) st be nx lg.length x (hd.1) (hg.2.1) (hg.1)) ([(a 4, .inr (0, [.long (lN m1), .ref (a 5), .ref (a 6)])), (a 5, .inl (G.2.1, 61, .inl er1)), (a 6, .inl (G.2.1, 61, .inl sk1)), (a 7, .inr (0, [.long (lN m2), .ref (a 8), .ref (a 9)])), (a 8, .inl (G.2.1, 61, .inl er2)), (a 9, .inl (G.2.1, 61, .inl sk2))] ++ (sW G (a 13) (a 14) ar 0 8 kr ++ sW G (a 15) (a 16) ac 1 21 kc)) (p_tl pc_0), ct_fr (c_X8_lift l G (b 0) (b 1) (b 2) (b 3) (b 4) (b 5) (b 6) (b 7) (b 8) (b 9) (b 10) (b 11) (b 12) (b 13) (b 14) (b 15) (b 16) (b 17) (b 18) un tp (nI kr) (nI kc) (nI (pcN 32 kr + pcN 32 kc)) (nI (ttOf 0 kr 8 + ttOf 1 kc 21)) ka wr lg.length m em f1 f2 f3 x (hd.1) (hg.1)) [(b 3, .inl (G.2.1, 61, .inl sm)), (b 7, .inl (G.2.1, 8, .inl (sbF 0 kr))), (b 8, .inl (G.2.1, 8, .inl (snF 0 kr))), (b 9, .inl (G.2.1, 8, .inl (stF 0 kr))), (b 10, .inl (G.2.1, 96, .inl rkv)), (b 11, .inl (G.2.1, 21, .inl (sbF 1 kc))), (b 12, .inl (G.2.1, 21, .inl (snF 1 kc))), (b 13, .inl (G.2.1, 21, .inl (stF 1 kc))), (b 14, .inl (G.2.1, 252, .inl ckv)), (b 15, .inl (G.2.1, 12, .inl mf)), (b 16, .inl (G.2.1, 12, .inl nf)), (b 17, .inl (G.2.1, 366, .inl kp)), (b 18, .inl (G.2.2.1, 2, .inl iqf))] pm_0, ?_, ?_⟩
  · rintro r1 w1 ⟨v1, P1, p1⟩
    exact ⟨_, P1.1⟩
  rintro r1 w1 r2 w2 ⟨v1, P1, p1⟩ ⟨v2, P2, p2⟩
  obtain ⟨rfl, Q1⟩ := P1
  obtain ⟨rfl, Q2⟩ := P2
  rcases Q1 with ⟨h1, rfl⟩ | ⟨h1, rfl⟩
  · rcases Q2 with ⟨h2, rfl⟩ | ⟨h2, rfl⟩
    · exact ⟨_, rfl, rfl, _, _, p1.symm.trans (p_tl pc_0), p2.symm.trans pm_0, m, er, em, sk, sm, lg, st, be, nx, f1, f2, f3, ik, m1, er1, sk1, m2, er2, sk2, kp, iqf, un, tp, kr, kc, mf, nf, rkv, ckv, ka, wr, rfl, rfl, hd, hs, hg, hik, hi0, hi1, hk⟩
    · rw [h1] at h2
      cases h2
  · rcases Q2 with ⟨h2, rfl⟩ | ⟨h2, rfl⟩
    · rw [h1] at h2
      cases h2
    · obtain ⟨k, hk0, rfl, hb⟩ := stn_in h1
      rw [cl_k hk0, ← lgN_len (x := (k, er k)) hg.1] at p1 p2
      have hd2 := dR_upd (w := em k) hd hk0 (pc_lift hk0 hd.2.1) (fun z => absurd rfl z)
      rw [fa_upd_same (f := em) (i := k) rfl] at hd2
      exact ⟨_, rfl, rfl, _, _, p1.symm.trans (p_tl pc_0), p2.symm.trans pm_0, bcm m k (-6), upd er k (-6), em, sk, sm, lgN (k, er k) lg, upd st nx (nI k), upd be nx (er k), (nx + 1) % 16, lgA lg.length f1 1, lgA lg.length f2 (nI k), lgA lg.length f3 (em k), ik, m1, er1, sk1, m2, er2, sk2, kp, iqf, un, tp, kr, kc, mf, nf, rkv, ckv, ka, wr, rfl, rfl, hd2, hs, gR_add hg hk0 (bcm_back (dR_iff hd hk0)) hd.2.1 ⟨fun z => absurd z (by decide), fun z => absurd z (dR_ne hd hk0 hb)⟩ (fun _ => (dR_at hd hk0 hb).symm), hik, hi0, hi1, hk⟩

set_option maxHeartbeats 4000000 in
set_option maxRecDepth 100000 in
theorem o_error {l : Launch} {G : GG} {a ar ac b : Nat → Nat} {wc wm : va_W} (x : Int32) (v : Int32) (hI : Inv G a ar ac b wc wm) : okOp l G a ar ac b yX7_error yX8_error wsX7_error wsX8_error ({ frames := 4, cells := 0, slots := 0, locals := 87 } : Room) ({ frames := 2, cells := 0, slots := 0, locals := 46 } : Room) [.int x, .int v] wc wm := by
  obtain ⟨m, er, em, sk, sm, lg, st, be, nx, f1, f2, f3, ik, m1, er1, sk1, m2, er2, sk2, kp, iqf, un, tp, kr, kc, mf, nf, rkv, ckv, ka, wr, rfl, rfl, hd, hs, hg, hik, hi0, hi1, hk⟩ := hI
  refine ⟨_, _, ct_fr (c_X7_error l G (a 0) (a 4) (a 7) (a 13) (a 15) (nI ik) un tp (a 1) (a 2) (a 3) m er sk (a 10) (a 11) (a 12) st be nx lg.length x v (hd.1) (hg.2.1) (hg.1)) ([(a 4, .inr (0, [.long (lN m1), .ref (a 5), .ref (a 6)])), (a 5, .inl (G.2.1, 61, .inl er1)), (a 6, .inl (G.2.1, 61, .inl sk1)), (a 7, .inr (0, [.long (lN m2), .ref (a 8), .ref (a 9)])), (a 8, .inl (G.2.1, 61, .inl er2)), (a 9, .inl (G.2.1, 61, .inl sk2))] ++ (sW G (a 13) (a 14) ar 0 8 kr ++ sW G (a 15) (a 16) ac 1 21 kc)) (p_tl pc_0), ct_fr (c_X8_error l G (b 0) (b 1) (b 2) (b 3) (b 4) (b 5) (b 6) (b 7) (b 8) (b 9) (b 10) (b 11) (b 12) (b 13) (b 14) (b 15) (b 16) (b 17) (b 18) un tp (nI kr) (nI kc) (nI (pcN 32 kr + pcN 32 kc)) (nI (ttOf 0 kr 8 + ttOf 1 kc 21)) ka wr lg.length m em f1 f2 f3 x v (hg.1)) [(b 3, .inl (G.2.1, 61, .inl sm)), (b 7, .inl (G.2.1, 8, .inl (sbF 0 kr))), (b 8, .inl (G.2.1, 8, .inl (snF 0 kr))), (b 9, .inl (G.2.1, 8, .inl (stF 0 kr))), (b 10, .inl (G.2.1, 96, .inl rkv)), (b 11, .inl (G.2.1, 21, .inl (sbF 1 kc))), (b 12, .inl (G.2.1, 21, .inl (snF 1 kc))), (b 13, .inl (G.2.1, 21, .inl (stF 1 kc))), (b 14, .inl (G.2.1, 252, .inl ckv)), (b 15, .inl (G.2.1, 12, .inl mf)), (b 16, .inl (G.2.1, 12, .inl nf)), (b 17, .inl (G.2.1, 366, .inl kp)), (b 18, .inl (G.2.2.1, 2, .inl iqf))] pm_0, ?_, ?_⟩
  · rintro r1 w1 ⟨v1, P1, p1⟩
    exact ⟨_, P1.1⟩
  rintro r1 w1 r2 w2 ⟨v1, P1, p1⟩ ⟨v2, P2, p2⟩
  obtain ⟨rfl, Q1⟩ := P1
  obtain ⟨rfl, Q2⟩ := P2
  rcases Q1 with ⟨h1, rfl⟩ | ⟨h1, rfl⟩
  · rcases Q2 with ⟨h2, rfl⟩ | ⟨h2, rfl⟩
    · exact ⟨_, rfl, by rw [err_eq hd], _, _, p1.symm.trans (p_tl pc_0), p2.symm.trans pm_0, m, er, em, sk, sm, lg, st, be, nx, f1, f2, f3, ik, m1, er1, sk1, m2, er2, sk2, kp, iqf, un, tp, kr, kc, mf, nf, rkv, ckv, ka, wr, rfl, rfl, hd, hs, hg, hik, hi0, hi1, hk⟩
    · rw [h1] at h2
      cases h2
  · rcases Q2 with ⟨h2, rfl⟩ | ⟨h2, rfl⟩
    · rw [h1] at h2
      cases h2
    · obtain ⟨k, hk0, rfl, hb, hv⟩ := err_in h1
      rw [cl_k hk0, ← lgN_len (x := (k, er k)) hg.1] at p1 p2
      have e := bcm_same hb hv
      have hd2 := dR_upd (w := v) hd hk0 (pc_err (v := v) hk0 hb hd.2.1) (fun _ => rfl)
      have e2 := bcm_back (v := v) (dR_iff hd hk0)
      rw [e] at p1 hd2 e2
      exact ⟨_, rfl, by rw [err_eq hd], _, _, p1.symm.trans (p_tl pc_0), p2.symm.trans pm_0, m, upd er k v, upd em k v, sk, sm, lgN (k, er k) lg, upd st nx (nI k), upd be nx (er k), (nx + 1) % 16, lgA lg.length f1 2, lgA lg.length f2 (nI k), lgA lg.length f3 (em k), ik, m1, er1, sk1, m2, er2, sk2, kp, iqf, un, tp + 1, kr, kc, mf, nf, rkv, ckv, ka, wr, rfl, rfl, hd2, hs, gR_add hg hk0 e2 hd.2.1 ⟨fun z => absurd z (by decide), fun z => absurd z (dR_ne hd hk0 hb)⟩ (fun _ => (dR_at hd hk0 hb).symm), hik, hi0, hi1, hk⟩

set_option maxHeartbeats 4000000 in
set_option maxRecDepth 100000 in
theorem o_undo {l : Launch} {G : GG} {a ar ac b : Nat → Nat} {wc wm : va_W}  (hI : Inv G a ar ac b wc wm) : okOp l G a ar ac b yX7_undo yX8_undo wsX7_undo wsX8_undo ({ frames := 3, cells := 0, slots := 0, locals := 62 } : Room) ({ frames := 0, cells := 0, slots := 0, locals := 0 } : Room) [] wc wm := by
  obtain ⟨m, er, em, sk, sm, lg, st, be, nx, f1, f2, f3, ik, m1, er1, sk1, m2, er2, sk2, kp, iqf, un, tp, kr, kc, mf, nf, rkv, ckv, ka, wr, rfl, rfl, hd, hs, hg, hik, hi0, hi1, hk⟩ := hI
  rcases lg with _ | ⟨⟨k, bq⟩, t⟩
  · refine ⟨_, _, ct_fr (c_X7_undo l G (a 0) (a 4) (a 7) (a 13) (a 15) (nI ik) un tp (a 1) (a 2) (a 3) m er sk (a 10) (a 11) (a 12) st be nx ([] : List (Nat × Int32)).length 0 (hg.2.1) (hg.1) (fun z => absurd rfl z)) ([(a 4, .inr (0, [.long (lN m1), .ref (a 5), .ref (a 6)])), (a 5, .inl (G.2.1, 61, .inl er1)), (a 6, .inl (G.2.1, 61, .inl sk1)), (a 7, .inr (0, [.long (lN m2), .ref (a 8), .ref (a 9)])), (a 8, .inl (G.2.1, 61, .inl er2)), (a 9, .inl (G.2.1, 61, .inl sk2))] ++ (sW G (a 13) (a 14) ar 0 8 kr ++ sW G (a 15) (a 16) ac 1 21 kc)) (p_tl pc_0), ct_fr (c_X8_undo l G (b 0) (b 1) (b 2) (b 3) (b 4) (b 5) (b 6) (b 7) (b 8) (b 9) (b 10) (b 11) (b 12) (b 13) (b 14) (b 15) (b 16) (b 17) (b 18) un tp (nI kr) (nI kc) (nI (pcN 32 kr + pcN 32 kc)) (nI (ttOf 0 kr 8 + ttOf 1 kc 21)) ka wr ([] : List (Nat × Int32)).length m em f1 f2 f3 0 0 (hg.1) (fun z => absurd rfl z)) [(b 3, .inl (G.2.1, 61, .inl sm)), (b 7, .inl (G.2.1, 8, .inl (sbF 0 kr))), (b 8, .inl (G.2.1, 8, .inl (snF 0 kr))), (b 9, .inl (G.2.1, 8, .inl (stF 0 kr))), (b 10, .inl (G.2.1, 96, .inl rkv)), (b 11, .inl (G.2.1, 21, .inl (sbF 1 kc))), (b 12, .inl (G.2.1, 21, .inl (snF 1 kc))), (b 13, .inl (G.2.1, 21, .inl (stF 1 kc))), (b 14, .inl (G.2.1, 252, .inl ckv)), (b 15, .inl (G.2.1, 12, .inl mf)), (b 16, .inl (G.2.1, 12, .inl nf)), (b 17, .inl (G.2.1, 366, .inl kp)), (b 18, .inl (G.2.2.1, 2, .inl iqf))] pm_0, ?_, ?_⟩
    · rintro r1 w1 ⟨v1, P1, p1⟩
      rcases P1 with ⟨-, h, -⟩ | ⟨-, h, -⟩ <;> exact ⟨_, h⟩
    rintro r1 w1 r2 w2 ⟨v1, P1, p1⟩ ⟨v2, P2, p2⟩
    rcases P1 with ⟨-, rfl, rfl⟩ | ⟨h1, -⟩
    · rcases P2 with ⟨-, rfl, rfl⟩ | ⟨h2, -⟩
      · exact ⟨_, rfl, rfl, _, _, p1.symm.trans (p_tl pc_0), p2.symm.trans pm_0, m, er, em, sk, sm, [], st, be, nx, f1, f2, f3, ik, m1, er1, sk1, m2, er2, sk2, kp, iqf, un, tp, kr, kc, mf, nf, rkv, ckv, ka, wr, rfl, rfl, hd, hs, hg, hik, hi0, hi1, hk⟩
      · exact absurd rfl h2
    · exact absurd rfl h1
  · refine ⟨_, _, ct_fr (c_X7_undo l G (a 0) (a 4) (a 7) (a 13) (a 15) (nI ik) un tp (a 1) (a 2) (a 3) m er sk (a 10) (a 11) (a 12) st be nx ((k, bq) :: t).length k (hg.2.1) (hg.1) (fun _ => ⟨hg.2.2.2.1.1, hg.2.2.1.1⟩)) ([(a 4, .inr (0, [.long (lN m1), .ref (a 5), .ref (a 6)])), (a 5, .inl (G.2.1, 61, .inl er1)), (a 6, .inl (G.2.1, 61, .inl sk1)), (a 7, .inr (0, [.long (lN m2), .ref (a 8), .ref (a 9)])), (a 8, .inl (G.2.1, 61, .inl er2)), (a 9, .inl (G.2.1, 61, .inl sk2))] ++ (sW G (a 13) (a 14) ar 0 8 kr ++ sW G (a 15) (a 16) ac 1 21 kc)) (p_tl pc_0), ct_fr (c_X8_undo l G (b 0) (b 1) (b 2) (b 3) (b 4) (b 5) (b 6) (b 7) (b 8) (b 9) (b 10) (b 11) (b 12) (b 13) (b 14) (b 15) (b 16) (b 17) (b 18) un tp (nI kr) (nI kc) (nI (pcN 32 kr + pcN 32 kc)) (nI (ttOf 0 kr 8 + ttOf 1 kc 21)) ka wr ((k, bq) :: t).length m em f1 f2 f3 k bq (hg.1) (fun _ => ⟨hg.2.2.2.2.1, hg.2.2.1.1, hg.2.2.2.2.2.1⟩)) [(b 3, .inl (G.2.1, 61, .inl sm)), (b 7, .inl (G.2.1, 8, .inl (sbF 0 kr))), (b 8, .inl (G.2.1, 8, .inl (snF 0 kr))), (b 9, .inl (G.2.1, 8, .inl (stF 0 kr))), (b 10, .inl (G.2.1, 96, .inl rkv)), (b 11, .inl (G.2.1, 21, .inl (sbF 1 kc))), (b 12, .inl (G.2.1, 21, .inl (snF 1 kc))), (b 13, .inl (G.2.1, 21, .inl (stF 1 kc))), (b 14, .inl (G.2.1, 252, .inl ckv)), (b 15, .inl (G.2.1, 12, .inl mf)), (b 16, .inl (G.2.1, 12, .inl nf)), (b 17, .inl (G.2.1, 366, .inl kp)), (b 18, .inl (G.2.2.1, 2, .inl iqf))] pm_0, ?_, ?_⟩
    · rintro r1 w1 ⟨v1, P1, p1⟩
      rcases P1 with ⟨-, h, -⟩ | ⟨-, h, -⟩ <;> exact ⟨_, h⟩
    rintro r1 w1 r2 w2 ⟨v1, P1, p1⟩ ⟨v2, P2, p2⟩
    rcases P1 with ⟨h1, -⟩ | ⟨-, rfl, rfl⟩
    · exact absurd h1 (by simp)
    · rcases P2 with ⟨h2, -⟩ | ⟨-, rfl, rfl⟩
      · exact absurd h2 (by simp)
      · obtain ⟨g1, g2, ⟨g3, g4, g5⟩, ⟨g6, g7, g8⟩, ⟨g9, g10, g11, g12⟩⟩ := hg
        have e : ((k, bq) :: t).length - 1 = t.length := rfl
        rw [g7, e] at p1
        rw [e] at p2
        have g1 : t.length + 1 ≤ 16 := g1
        exact ⟨_, rfl, rfl, _, _, p1.symm.trans (p_tl pc_0), p2.symm.trans pm_0, bcm m k bq, upd er k bq, upd em k (f3 t.length), sk, sm, t, st, be, (nx + 15) % 16, f1, f2, f3, ik, m1, er1, sk1, m2, er2, sk2, kp, iqf, un + 1, tp, kr, kc, mf, nf, rkv, ckv, ka, wr, rfl, rfl, dR_upd hd g3 g4 g11, hs, ⟨by omega, Nat.mod_lt _ (by decide), g5, g8, g12⟩, hik, hi0, hi1, hk⟩

set_option maxHeartbeats 4000000 in
set_option maxRecDepth 100000 in
theorem o_station {l : Launch} {G : GG} {a ar ac b : Nat → Nat} {wc wm : va_W} (i : Int32) (hI : Inv G a ar ac b wc wm) : okOp l G a ar ac b yX7_station yX8_station wsX7_station wsX8_station ({ frames := 4, cells := 0, slots := 0, locals := 86 } : Room) ({ frames := 0, cells := 0, slots := 0, locals := 0 } : Room) [.int i] wc wm := by
  obtain ⟨m, er, em, sk, sm, lg, st, be, nx, f1, f2, f3, ik, m1, er1, sk1, m2, er2, sk2, kp, iqf, un, tp, kr, kc, mf, nf, rkv, ckv, ka, wr, rfl, rfl, hd, hs, hg, hik, hi0, hi1, hk⟩ := hI
  refine ⟨_, _, ct_fr (c_X7_station l G (a 0) (a 4) (a 7) (a 13) (a 15) (nI ik) un tp (a 10) (a 1) (a 2) (a 3) m er sk i (hd.1)) ([(a 4, .inr (0, [.long (lN m1), .ref (a 5), .ref (a 6)])), (a 5, .inl (G.2.1, 61, .inl er1)), (a 6, .inl (G.2.1, 61, .inl sk1)), (a 7, .inr (0, [.long (lN m2), .ref (a 8), .ref (a 9)])), (a 8, .inl (G.2.1, 61, .inl er2)), (a 9, .inl (G.2.1, 61, .inl sk2)), (a 10, .inr (2, [.ref (a 11), .ref (a 12), .int (nI nx), .int (nI lg.length)])), (a 11, .inl (G.2.1, 16, .inl st)), (a 12, .inl (G.2.1, 16, .inl be))] ++ (sW G (a 13) (a 14) ar 0 8 kr ++ sW G (a 15) (a 16) ac 1 21 kc)) (p_tl pc_1), ct_fr (c_X8_station l G (b 0) (b 1) (b 2) (b 3) (b 4) (b 5) (b 6) (b 7) (b 8) (b 9) (b 10) (b 11) (b 12) (b 13) (b 14) (b 15) (b 16) (b 17) (b 18) (nI lg.length) un tp (nI kr) (nI kc) (nI (pcN 32 kr + pcN 32 kc)) (nI (ttOf 0 kr 8 + ttOf 1 kc 21)) ka wr m i) [(b 2, .inl (G.2.1, 61, .inl em)), (b 3, .inl (G.2.1, 61, .inl sm)), (b 4, .inl (G.2.1, 16, .inl f1)), (b 5, .inl (G.2.1, 16, .inl f2)), (b 6, .inl (G.2.1, 16, .inl f3)), (b 7, .inl (G.2.1, 8, .inl (sbF 0 kr))), (b 8, .inl (G.2.1, 8, .inl (snF 0 kr))), (b 9, .inl (G.2.1, 8, .inl (stF 0 kr))), (b 10, .inl (G.2.1, 96, .inl rkv)), (b 11, .inl (G.2.1, 21, .inl (sbF 1 kc))), (b 12, .inl (G.2.1, 21, .inl (snF 1 kc))), (b 13, .inl (G.2.1, 21, .inl (stF 1 kc))), (b 14, .inl (G.2.1, 252, .inl ckv)), (b 15, .inl (G.2.1, 12, .inl mf)), (b 16, .inl (G.2.1, 12, .inl nf)), (b 17, .inl (G.2.1, 366, .inl kp)), (b 18, .inl (G.2.2.1, 2, .inl iqf))] pm_1, ?_, ?_⟩
  · rintro r1 w1 ⟨v1, P1, p1⟩
    exact ⟨_, P1.1⟩
  rintro r1 w1 r2 w2 ⟨v1, P1, p1⟩ ⟨v2, P2, p2⟩
  obtain ⟨rfl, rfl⟩ := P1
  obtain ⟨rfl, rfl⟩ := P2
  exact ⟨_, rfl, rfl, _, _, p1.symm.trans (p_tl pc_1), p2.symm.trans pm_1, m, er, em, sk, sm, lg, st, be, nx, f1, f2, f3, ik, m1, er1, sk1, m2, er2, sk2, kp, iqf, un, tp, kr, kc, mf, nf, rkv, ckv, ka, wr, rfl, rfl, hd, hs, hg, hik, hi0, hi1, hk⟩

set_option maxHeartbeats 4000000 in
set_option maxRecDepth 100000 in
theorem o_spacing {l : Launch} {G : GG} {a ar ac b : Nat → Nat} {wc wm : va_W} (x : Int32) (hI : Inv G a ar ac b wc wm) : okOp l G a ar ac b yX7_spacing yX8_spacing wsX7_spacing wsX8_spacing ({ frames := 2, cells := 0, slots := 0, locals := 43 } : Room) ({ frames := 1, cells := 0, slots := 0, locals := 25 } : Room) [.int x] wc wm := by
  obtain ⟨m, er, em, sk, sm, lg, st, be, nx, f1, f2, f3, ik, m1, er1, sk1, m2, er2, sk2, kp, iqf, un, tp, kr, kc, mf, nf, rkv, ckv, ka, wr, rfl, rfl, hd, hs, hg, hik, hi0, hi1, hk⟩ := hI
  refine ⟨_, _, ct_fr (c_X7_spacing l G (a 0) (a 4) (a 7) (a 13) (a 15) (nI ik) un tp (a 10) (a 1) (a 2) (a 3) m er sk x (hd.1)) ([(a 4, .inr (0, [.long (lN m1), .ref (a 5), .ref (a 6)])), (a 5, .inl (G.2.1, 61, .inl er1)), (a 6, .inl (G.2.1, 61, .inl sk1)), (a 7, .inr (0, [.long (lN m2), .ref (a 8), .ref (a 9)])), (a 8, .inl (G.2.1, 61, .inl er2)), (a 9, .inl (G.2.1, 61, .inl sk2)), (a 10, .inr (2, [.ref (a 11), .ref (a 12), .int (nI nx), .int (nI lg.length)])), (a 11, .inl (G.2.1, 16, .inl st)), (a 12, .inl (G.2.1, 16, .inl be))] ++ (sW G (a 13) (a 14) ar 0 8 kr ++ sW G (a 15) (a 16) ac 1 21 kc)) (p_tl pc_1), ct_fr (c_X8_spacing l G (b 0) (b 1) (b 2) (b 3) (b 4) (b 5) (b 6) (b 7) (b 8) (b 9) (b 10) (b 11) (b 12) (b 13) (b 14) (b 15) (b 16) (b 17) (b 18) (nI lg.length) un tp (nI kr) (nI kc) (nI (pcN 32 kr + pcN 32 kc)) (nI (ttOf 0 kr 8 + ttOf 1 kc 21)) ka wr m x (hd.1)) [(b 2, .inl (G.2.1, 61, .inl em)), (b 3, .inl (G.2.1, 61, .inl sm)), (b 4, .inl (G.2.1, 16, .inl f1)), (b 5, .inl (G.2.1, 16, .inl f2)), (b 6, .inl (G.2.1, 16, .inl f3)), (b 7, .inl (G.2.1, 8, .inl (sbF 0 kr))), (b 8, .inl (G.2.1, 8, .inl (snF 0 kr))), (b 9, .inl (G.2.1, 8, .inl (stF 0 kr))), (b 10, .inl (G.2.1, 96, .inl rkv)), (b 11, .inl (G.2.1, 21, .inl (sbF 1 kc))), (b 12, .inl (G.2.1, 21, .inl (snF 1 kc))), (b 13, .inl (G.2.1, 21, .inl (stF 1 kc))), (b 14, .inl (G.2.1, 252, .inl ckv)), (b 15, .inl (G.2.1, 12, .inl mf)), (b 16, .inl (G.2.1, 12, .inl nf)), (b 17, .inl (G.2.1, 366, .inl kp)), (b 18, .inl (G.2.2.1, 2, .inl iqf))] pm_1, ?_, ?_⟩
  · rintro r1 w1 ⟨v1, P1, p1⟩
    exact ⟨_, P1.1⟩
  rintro r1 w1 r2 w2 ⟨v1, P1, p1⟩ ⟨v2, P2, p2⟩
  obtain ⟨rfl, rfl⟩ := P1
  obtain ⟨rfl, rfl⟩ := P2
  exact ⟨_, rfl, rfl, _, _, p1.symm.trans (p_tl pc_1), p2.symm.trans pm_1, m, er, em, sk, sm, lg, st, be, nx, f1, f2, f3, ik, m1, er1, sk1, m2, er2, sk2, kp, iqf, un, tp, kr, kc, mf, nf, rkv, ckv, ka, wr, rfl, rfl, hd, hs, hg, hik, hi0, hi1, hk⟩

set_option maxHeartbeats 4000000 in
set_option maxRecDepth 100000 in
theorem o_facts {l : Launch} {G : GG} {a ar ac b : Nat → Nat} {wc wm : va_W} (x : Int32) (hI : Inv G a ar ac b wc wm) : okOp l G a ar ac b yX7_facts yX8_facts wsX7_facts wsX8_facts ({ frames := 6, cells := 0, slots := 0, locals := 131 } : Room) ({ frames := 3, cells := 0, slots := 0, locals := 68 } : Room) [.int x] wc wm := by
  obtain ⟨m, er, em, sk, sm, lg, st, be, nx, f1, f2, f3, ik, m1, er1, sk1, m2, er2, sk2, kp, iqf, un, tp, kr, kc, mf, nf, rkv, ckv, ka, wr, rfl, rfl, hd, hs, hg, hik, hi0, hi1, hk⟩ := hI
  refine ⟨_, _, ct_fr (c_X7_facts l G (a 0) (a 4) (a 7) (a 13) (a 15) (nI ik) un tp (a 10) (a 1) (a 2) (a 3) m er sk x (hd.1)) ([(a 4, .inr (0, [.long (lN m1), .ref (a 5), .ref (a 6)])), (a 5, .inl (G.2.1, 61, .inl er1)), (a 6, .inl (G.2.1, 61, .inl sk1)), (a 7, .inr (0, [.long (lN m2), .ref (a 8), .ref (a 9)])), (a 8, .inl (G.2.1, 61, .inl er2)), (a 9, .inl (G.2.1, 61, .inl sk2)), (a 10, .inr (2, [.ref (a 11), .ref (a 12), .int (nI nx), .int (nI lg.length)])), (a 11, .inl (G.2.1, 16, .inl st)), (a 12, .inl (G.2.1, 16, .inl be))] ++ (sW G (a 13) (a 14) ar 0 8 kr ++ sW G (a 15) (a 16) ac 1 21 kc)) (p_tl pc_1), ct_fr (c_X8_facts l G (b 0) (b 1) (b 2) (b 3) (b 4) (b 5) (b 6) (b 7) (b 8) (b 9) (b 10) (b 11) (b 12) (b 13) (b 14) (b 15) (b 16) (b 17) (b 18) (nI lg.length) un tp (nI kr) (nI kc) (nI (pcN 32 kr + pcN 32 kc)) (nI (ttOf 0 kr 8 + ttOf 1 kc 21)) ka wr m x (hd.1)) [(b 2, .inl (G.2.1, 61, .inl em)), (b 3, .inl (G.2.1, 61, .inl sm)), (b 4, .inl (G.2.1, 16, .inl f1)), (b 5, .inl (G.2.1, 16, .inl f2)), (b 6, .inl (G.2.1, 16, .inl f3)), (b 7, .inl (G.2.1, 8, .inl (sbF 0 kr))), (b 8, .inl (G.2.1, 8, .inl (snF 0 kr))), (b 9, .inl (G.2.1, 8, .inl (stF 0 kr))), (b 10, .inl (G.2.1, 96, .inl rkv)), (b 11, .inl (G.2.1, 21, .inl (sbF 1 kc))), (b 12, .inl (G.2.1, 21, .inl (snF 1 kc))), (b 13, .inl (G.2.1, 21, .inl (stF 1 kc))), (b 14, .inl (G.2.1, 252, .inl ckv)), (b 15, .inl (G.2.1, 12, .inl mf)), (b 16, .inl (G.2.1, 12, .inl nf)), (b 17, .inl (G.2.1, 366, .inl kp)), (b 18, .inl (G.2.2.1, 2, .inl iqf))] pm_1, ?_, ?_⟩
  · rintro r1 w1 ⟨v1, P1, p1⟩
    exact ⟨_, P1.1⟩
  rintro r1 w1 r2 w2 ⟨v1, P1, p1⟩ ⟨v2, P2, p2⟩
  obtain ⟨rfl, rfl⟩ := P1
  obtain ⟨rfl, rfl⟩ := P2
  exact ⟨_, rfl, rfl, _, _, p1.symm.trans (p_tl pc_1), p2.symm.trans pm_1, m, er, em, sk, sm, lg, st, be, nx, f1, f2, f3, ik, m1, er1, sk1, m2, er2, sk2, kp, iqf, un, tp, kr, kc, mf, nf, rkv, ckv, ka, wr, rfl, rfl, hd, hs, hg, hik, hi0, hi1, hk⟩

set_option maxHeartbeats 4000000 in
set_option maxRecDepth 100000 in
theorem o_left {l : Launch} {G : GG} {a ar ac b : Nat → Nat} {wc wm : va_W} (x : Int32) (hI : Inv G a ar ac b wc wm) : okOp l G a ar ac b yX7_left yX8_left wsX7_left wsX8_left ({ frames := 4, cells := 0, slots := 0, locals := 87 } : Room) ({ frames := 2, cells := 0, slots := 0, locals := 46 } : Room) [.int x] wc wm := by
  obtain ⟨m, er, em, sk, sm, lg, st, be, nx, f1, f2, f3, ik, m1, er1, sk1, m2, er2, sk2, kp, iqf, un, tp, kr, kc, mf, nf, rkv, ckv, ka, wr, rfl, rfl, hd, hs, hg, hik, hi0, hi1, hk⟩ := hI
  refine ⟨_, _, ct_fr (c_X7_left l G (a 0) (a 4) (a 7) (a 13) (a 15) (nI ik) un tp (a 10) (a 1) (a 2) (a 3) m er sk x (hd.1)) ([(a 4, .inr (0, [.long (lN m1), .ref (a 5), .ref (a 6)])), (a 5, .inl (G.2.1, 61, .inl er1)), (a 6, .inl (G.2.1, 61, .inl sk1)), (a 7, .inr (0, [.long (lN m2), .ref (a 8), .ref (a 9)])), (a 8, .inl (G.2.1, 61, .inl er2)), (a 9, .inl (G.2.1, 61, .inl sk2)), (a 10, .inr (2, [.ref (a 11), .ref (a 12), .int (nI nx), .int (nI lg.length)])), (a 11, .inl (G.2.1, 16, .inl st)), (a 12, .inl (G.2.1, 16, .inl be))] ++ (sW G (a 13) (a 14) ar 0 8 kr ++ sW G (a 15) (a 16) ac 1 21 kc)) (p_tl pc_1), ct_fr (c_X8_left l G (b 0) (b 1) (b 2) (b 3) (b 4) (b 5) (b 6) (b 7) (b 8) (b 9) (b 10) (b 11) (b 12) (b 13) (b 14) (b 15) (b 16) (b 17) (b 18) (nI lg.length) un tp (nI kr) (nI kc) (nI (pcN 32 kr + pcN 32 kc)) (nI (ttOf 0 kr 8 + ttOf 1 kc 21)) ka wr m x (hd.1)) [(b 2, .inl (G.2.1, 61, .inl em)), (b 3, .inl (G.2.1, 61, .inl sm)), (b 4, .inl (G.2.1, 16, .inl f1)), (b 5, .inl (G.2.1, 16, .inl f2)), (b 6, .inl (G.2.1, 16, .inl f3)), (b 7, .inl (G.2.1, 8, .inl (sbF 0 kr))), (b 8, .inl (G.2.1, 8, .inl (snF 0 kr))), (b 9, .inl (G.2.1, 8, .inl (stF 0 kr))), (b 10, .inl (G.2.1, 96, .inl rkv)), (b 11, .inl (G.2.1, 21, .inl (sbF 1 kc))), (b 12, .inl (G.2.1, 21, .inl (snF 1 kc))), (b 13, .inl (G.2.1, 21, .inl (stF 1 kc))), (b 14, .inl (G.2.1, 252, .inl ckv)), (b 15, .inl (G.2.1, 12, .inl mf)), (b 16, .inl (G.2.1, 12, .inl nf)), (b 17, .inl (G.2.1, 366, .inl kp)), (b 18, .inl (G.2.2.1, 2, .inl iqf))] pm_1, ?_, ?_⟩
  · rintro r1 w1 ⟨v1, P1, p1⟩
    exact ⟨_, P1.1⟩
  rintro r1 w1 r2 w2 ⟨v1, P1, p1⟩ ⟨v2, P2, p2⟩
  obtain ⟨rfl, rfl⟩ := P1
  obtain ⟨rfl, rfl⟩ := P2
  exact ⟨_, rfl, rfl, _, _, p1.symm.trans (p_tl pc_1), p2.symm.trans pm_1, m, er, em, sk, sm, lg, st, be, nx, f1, f2, f3, ik, m1, er1, sk1, m2, er2, sk2, kp, iqf, un, tp, kr, kc, mf, nf, rkv, ckv, ka, wr, rfl, rfl, hd, hs, hg, hik, hi0, hi1, hk⟩

set_option maxHeartbeats 4000000 in
set_option maxRecDepth 100000 in
theorem o_missed {l : Launch} {G : GG} {a ar ac b : Nat → Nat} {wc wm : va_W} (i : Int32) (hI : Inv G a ar ac b wc wm) : okOp l G a ar ac b yX7_missed yX8_missed wsX7_missed wsX8_missed ({ frames := 5, cells := 0, slots := 0, locals := 113 } : Room) ({ frames := 3, cells := 0, slots := 0, locals := 71 } : Room) [.int i] wc wm := by
  obtain ⟨m, er, em, sk, sm, lg, st, be, nx, f1, f2, f3, ik, m1, er1, sk1, m2, er2, sk2, kp, iqf, un, tp, kr, kc, mf, nf, rkv, ckv, ka, wr, rfl, rfl, hd, hs, hg, hik, hi0, hi1, hk⟩ := hI
  refine ⟨_, _, ct_fr (c_X7_missed l G (a 0) (a 4) (a 7) (a 13) (a 15) (nI ik) un tp (a 10) (a 1) (a 2) (a 3) m er sk i (hd.1)) ([(a 4, .inr (0, [.long (lN m1), .ref (a 5), .ref (a 6)])), (a 5, .inl (G.2.1, 61, .inl er1)), (a 6, .inl (G.2.1, 61, .inl sk1)), (a 7, .inr (0, [.long (lN m2), .ref (a 8), .ref (a 9)])), (a 8, .inl (G.2.1, 61, .inl er2)), (a 9, .inl (G.2.1, 61, .inl sk2)), (a 10, .inr (2, [.ref (a 11), .ref (a 12), .int (nI nx), .int (nI lg.length)])), (a 11, .inl (G.2.1, 16, .inl st)), (a 12, .inl (G.2.1, 16, .inl be))] ++ (sW G (a 13) (a 14) ar 0 8 kr ++ sW G (a 15) (a 16) ac 1 21 kc)) (p_tl pc_1), ct_fr (c_X8_missed l G (b 0) (b 1) (b 2) (b 3) (b 4) (b 5) (b 6) (b 7) (b 8) (b 9) (b 10) (b 11) (b 12) (b 13) (b 14) (b 15) (b 16) (b 17) (b 18) (nI lg.length) un tp (nI kr) (nI kc) (nI (pcN 32 kr + pcN 32 kc)) (nI (ttOf 0 kr 8 + ttOf 1 kc 21)) ka wr m i (hd.1)) [(b 2, .inl (G.2.1, 61, .inl em)), (b 3, .inl (G.2.1, 61, .inl sm)), (b 4, .inl (G.2.1, 16, .inl f1)), (b 5, .inl (G.2.1, 16, .inl f2)), (b 6, .inl (G.2.1, 16, .inl f3)), (b 7, .inl (G.2.1, 8, .inl (sbF 0 kr))), (b 8, .inl (G.2.1, 8, .inl (snF 0 kr))), (b 9, .inl (G.2.1, 8, .inl (stF 0 kr))), (b 10, .inl (G.2.1, 96, .inl rkv)), (b 11, .inl (G.2.1, 21, .inl (sbF 1 kc))), (b 12, .inl (G.2.1, 21, .inl (snF 1 kc))), (b 13, .inl (G.2.1, 21, .inl (stF 1 kc))), (b 14, .inl (G.2.1, 252, .inl ckv)), (b 15, .inl (G.2.1, 12, .inl mf)), (b 16, .inl (G.2.1, 12, .inl nf)), (b 17, .inl (G.2.1, 366, .inl kp)), (b 18, .inl (G.2.2.1, 2, .inl iqf))] pm_1, ?_, ?_⟩
  · rintro r1 w1 ⟨v1, P1, p1⟩
    exact ⟨_, P1.1⟩
  rintro r1 w1 r2 w2 ⟨v1, P1, p1⟩ ⟨v2, P2, p2⟩
  obtain ⟨rfl, rfl⟩ := P1
  obtain ⟨rfl, rfl⟩ := P2
  exact ⟨_, rfl, by rw [mis_eq hd.1 hd.2.1], _, _, p1.symm.trans (p_tl pc_1), p2.symm.trans pm_1, m, er, em, sk, sm, lg, st, be, nx, f1, f2, f3, ik, m1, er1, sk1, m2, er2, sk2, kp, iqf, un, tp, kr, kc, mf, nf, rkv, ckv, ka, wr, rfl, rfl, hd, hs, hg, hik, hi0, hi1, hk⟩

set_option maxHeartbeats 4000000 in
set_option maxRecDepth 100000 in
theorem o_sure {l : Launch} {G : GG} {a ar ac b : Nat → Nat} {wc wm : va_W}  (hI : Inv G a ar ac b wc wm) : okOp l G a ar ac b yX7_sure yX8_sure wsX7_sure wsX8_sure ({ frames := 5, cells := 0, slots := 0, locals := 113 } : Room) ({ frames := 4, cells := 0, slots := 0, locals := 93 } : Room) [] wc wm := by
  obtain ⟨m, er, em, sk, sm, lg, st, be, nx, f1, f2, f3, ik, m1, er1, sk1, m2, er2, sk2, kp, iqf, un, tp, kr, kc, mf, nf, rkv, ckv, ka, wr, rfl, rfl, hd, hs, hg, hik, hi0, hi1, hk⟩ := hI
  refine ⟨_, _, ct_fr (c_X7_sure l G (a 0) (a 4) (a 7) (a 13) (a 15) (nI ik) un tp (a 10) (a 1) (a 2) (a 3) m er sk (hd.1)) ([(a 4, .inr (0, [.long (lN m1), .ref (a 5), .ref (a 6)])), (a 5, .inl (G.2.1, 61, .inl er1)), (a 6, .inl (G.2.1, 61, .inl sk1)), (a 7, .inr (0, [.long (lN m2), .ref (a 8), .ref (a 9)])), (a 8, .inl (G.2.1, 61, .inl er2)), (a 9, .inl (G.2.1, 61, .inl sk2)), (a 10, .inr (2, [.ref (a 11), .ref (a 12), .int (nI nx), .int (nI lg.length)])), (a 11, .inl (G.2.1, 16, .inl st)), (a 12, .inl (G.2.1, 16, .inl be))] ++ (sW G (a 13) (a 14) ar 0 8 kr ++ sW G (a 15) (a 16) ac 1 21 kc)) (p_tl pc_1), ct_fr (c_X8_sure l G (b 0) (b 1) (b 2) (b 3) (b 4) (b 5) (b 6) (b 7) (b 8) (b 9) (b 10) (b 11) (b 12) (b 13) (b 14) (b 15) (b 16) (b 17) (b 18) (nI lg.length) un tp (nI kr) (nI kc) (nI (pcN 32 kr + pcN 32 kc)) (nI (ttOf 0 kr 8 + ttOf 1 kc 21)) ka wr m (hd.1)) [(b 2, .inl (G.2.1, 61, .inl em)), (b 3, .inl (G.2.1, 61, .inl sm)), (b 4, .inl (G.2.1, 16, .inl f1)), (b 5, .inl (G.2.1, 16, .inl f2)), (b 6, .inl (G.2.1, 16, .inl f3)), (b 7, .inl (G.2.1, 8, .inl (sbF 0 kr))), (b 8, .inl (G.2.1, 8, .inl (snF 0 kr))), (b 9, .inl (G.2.1, 8, .inl (stF 0 kr))), (b 10, .inl (G.2.1, 96, .inl rkv)), (b 11, .inl (G.2.1, 21, .inl (sbF 1 kc))), (b 12, .inl (G.2.1, 21, .inl (snF 1 kc))), (b 13, .inl (G.2.1, 21, .inl (stF 1 kc))), (b 14, .inl (G.2.1, 252, .inl ckv)), (b 15, .inl (G.2.1, 12, .inl mf)), (b 16, .inl (G.2.1, 12, .inl nf)), (b 17, .inl (G.2.1, 366, .inl kp)), (b 18, .inl (G.2.2.1, 2, .inl iqf))] pm_1, ?_, ?_⟩
  · rintro r1 w1 ⟨v1, P1, p1⟩
    exact ⟨_, P1.1⟩
  rintro r1 w1 r2 w2 ⟨v1, P1, p1⟩ ⟨v2, P2, p2⟩
  obtain ⟨rfl, rfl⟩ := P1
  obtain ⟨rfl, rfl⟩ := P2
  exact ⟨_, rfl, by rw [sure_eq hd.1 hd.2.1], _, _, p1.symm.trans (p_tl pc_1), p2.symm.trans pm_1, m, er, em, sk, sm, lg, st, be, nx, f1, f2, f3, ik, m1, er1, sk1, m2, er2, sk2, kp, iqf, un, tp, kr, kc, mf, nf, rkv, ckv, ka, wr, rfl, rfl, hd, hs, hg, hik, hi0, hi1, hk⟩

set_option maxHeartbeats 4000000 in
set_option maxRecDepth 100000 in
theorem o_phase {l : Launch} {G : GG} {a ar ac b : Nat → Nat} {wc wm : va_W} (x : Int32) (y : Int32) (hI : Inv G a ar ac b wc wm) : okOp l G a ar ac b yX7_phase yX8_phase wsX7_phase wsX8_phase ({ frames := 4, cells := 0, slots := 0, locals := 83 } : Room) ({ frames := 2, cells := 0, slots := 0, locals := 46 } : Room) [.int x, .int y] wc wm := by
  obtain ⟨m, er, em, sk, sm, lg, st, be, nx, f1, f2, f3, ik, m1, er1, sk1, m2, er2, sk2, kp, iqf, un, tp, kr, kc, mf, nf, rkv, ckv, ka, wr, rfl, rfl, hd, hs, hg, hik, hi0, hi1, hk⟩ := hI
  refine ⟨_, _, ct_fr (c_X7_phase l G (a 0) (a 4) (a 7) (a 13) (a 15) (nI ik) un tp (a 10) (a 1) (a 2) (a 3) m er sk x y (hd.1)) ([(a 4, .inr (0, [.long (lN m1), .ref (a 5), .ref (a 6)])), (a 5, .inl (G.2.1, 61, .inl er1)), (a 6, .inl (G.2.1, 61, .inl sk1)), (a 7, .inr (0, [.long (lN m2), .ref (a 8), .ref (a 9)])), (a 8, .inl (G.2.1, 61, .inl er2)), (a 9, .inl (G.2.1, 61, .inl sk2)), (a 10, .inr (2, [.ref (a 11), .ref (a 12), .int (nI nx), .int (nI lg.length)])), (a 11, .inl (G.2.1, 16, .inl st)), (a 12, .inl (G.2.1, 16, .inl be))] ++ (sW G (a 13) (a 14) ar 0 8 kr ++ sW G (a 15) (a 16) ac 1 21 kc)) (p_tl pc_1), ct_fr (c_X8_phase l G (b 0) (b 1) (b 2) (b 3) (b 4) (b 5) (b 6) (b 7) (b 8) (b 9) (b 10) (b 11) (b 12) (b 13) (b 14) (b 15) (b 16) (b 17) (b 18) (nI lg.length) un tp (nI kr) (nI kc) (nI (pcN 32 kr + pcN 32 kc)) (nI (ttOf 0 kr 8 + ttOf 1 kc 21)) ka wr m em sm x y) [(b 4, .inl (G.2.1, 16, .inl f1)), (b 5, .inl (G.2.1, 16, .inl f2)), (b 6, .inl (G.2.1, 16, .inl f3)), (b 7, .inl (G.2.1, 8, .inl (sbF 0 kr))), (b 8, .inl (G.2.1, 8, .inl (snF 0 kr))), (b 9, .inl (G.2.1, 8, .inl (stF 0 kr))), (b 10, .inl (G.2.1, 96, .inl rkv)), (b 11, .inl (G.2.1, 21, .inl (sbF 1 kc))), (b 12, .inl (G.2.1, 21, .inl (snF 1 kc))), (b 13, .inl (G.2.1, 21, .inl (stF 1 kc))), (b 14, .inl (G.2.1, 252, .inl ckv)), (b 15, .inl (G.2.1, 12, .inl mf)), (b 16, .inl (G.2.1, 12, .inl nf)), (b 17, .inl (G.2.1, 366, .inl kp)), (b 18, .inl (G.2.2.1, 2, .inl iqf))] pm_2, ?_, ?_⟩
  · rintro r1 w1 ⟨v1, P1, p1⟩
    exact ⟨_, P1.1⟩
  rintro r1 w1 r2 w2 ⟨v1, P1, p1⟩ ⟨v2, P2, p2⟩
  obtain ⟨rfl, rfl⟩ := P1
  obtain ⟨rfl, rfl⟩ := P2
  exact ⟨_, rfl, by rw [ph_eq hd hs], _, _, p1.symm.trans (p_tl pc_1), p2.symm.trans pm_2, m, er, em, sk, sm, lg, st, be, nx, f1, f2, f3, ik, m1, er1, sk1, m2, er2, sk2, kp, iqf, un, tp, kr, kc, mf, nf, rkv, ckv, ka, wr, rfl, rfl, hd, hs, hg, hik, hi0, hi1, hk⟩

set_option maxHeartbeats 4000000 in
set_option maxRecDepth 100000 in
theorem o_closure {l : Launch} {G : GG} {a ar ac b : Nat → Nat} {wc wm : va_W} (x : Int32) (y : Int32) (z : Int32) (hI : Inv G a ar ac b wc wm) : okOp l G a ar ac b yX7_closure yX8_closure wsX7_closure wsX8_closure ({ frames := 4, cells := 0, slots := 0, locals := 83 } : Room) ({ frames := 2, cells := 0, slots := 0, locals := 46 } : Room) [.int x, .int y, .int z] wc wm := by
  obtain ⟨m, er, em, sk, sm, lg, st, be, nx, f1, f2, f3, ik, m1, er1, sk1, m2, er2, sk2, kp, iqf, un, tp, kr, kc, mf, nf, rkv, ckv, ka, wr, rfl, rfl, hd, hs, hg, hik, hi0, hi1, hk⟩ := hI
  refine ⟨_, _, ct_fr (c_X7_closure l G (a 0) (a 4) (a 7) (a 13) (a 15) (nI ik) un tp (a 10) (a 1) (a 2) (a 3) m er sk x y z (hd.1)) ([(a 4, .inr (0, [.long (lN m1), .ref (a 5), .ref (a 6)])), (a 5, .inl (G.2.1, 61, .inl er1)), (a 6, .inl (G.2.1, 61, .inl sk1)), (a 7, .inr (0, [.long (lN m2), .ref (a 8), .ref (a 9)])), (a 8, .inl (G.2.1, 61, .inl er2)), (a 9, .inl (G.2.1, 61, .inl sk2)), (a 10, .inr (2, [.ref (a 11), .ref (a 12), .int (nI nx), .int (nI lg.length)])), (a 11, .inl (G.2.1, 16, .inl st)), (a 12, .inl (G.2.1, 16, .inl be))] ++ (sW G (a 13) (a 14) ar 0 8 kr ++ sW G (a 15) (a 16) ac 1 21 kc)) (p_tl pc_1), ct_fr (c_X8_closure l G (b 0) (b 1) (b 2) (b 3) (b 4) (b 5) (b 6) (b 7) (b 8) (b 9) (b 10) (b 11) (b 12) (b 13) (b 14) (b 15) (b 16) (b 17) (b 18) (nI lg.length) un tp (nI kr) (nI kc) (nI (pcN 32 kr + pcN 32 kc)) (nI (ttOf 0 kr 8 + ttOf 1 kc 21)) ka wr m em sm x y z) [(b 4, .inl (G.2.1, 16, .inl f1)), (b 5, .inl (G.2.1, 16, .inl f2)), (b 6, .inl (G.2.1, 16, .inl f3)), (b 7, .inl (G.2.1, 8, .inl (sbF 0 kr))), (b 8, .inl (G.2.1, 8, .inl (snF 0 kr))), (b 9, .inl (G.2.1, 8, .inl (stF 0 kr))), (b 10, .inl (G.2.1, 96, .inl rkv)), (b 11, .inl (G.2.1, 21, .inl (sbF 1 kc))), (b 12, .inl (G.2.1, 21, .inl (snF 1 kc))), (b 13, .inl (G.2.1, 21, .inl (stF 1 kc))), (b 14, .inl (G.2.1, 252, .inl ckv)), (b 15, .inl (G.2.1, 12, .inl mf)), (b 16, .inl (G.2.1, 12, .inl nf)), (b 17, .inl (G.2.1, 366, .inl kp)), (b 18, .inl (G.2.2.1, 2, .inl iqf))] pm_2, ?_, ?_⟩
  · rintro r1 w1 ⟨v1, P1, p1⟩
    exact ⟨_, P1.1⟩
  rintro r1 w1 r2 w2 ⟨v1, P1, p1⟩ ⟨v2, P2, p2⟩
  obtain ⟨rfl, rfl⟩ := P1
  obtain ⟨rfl, rfl⟩ := P2
  exact ⟨_, rfl, by rw [cl_eq hd hs], _, _, p1.symm.trans (p_tl pc_1), p2.symm.trans pm_2, m, er, em, sk, sm, lg, st, be, nx, f1, f2, f3, ik, m1, er1, sk1, m2, er2, sk2, kp, iqf, un, tp, kr, kc, mf, nf, rkv, ckv, ka, wr, rfl, rfl, hd, hs, hg, hik, hi0, hi1, hk⟩

set_option maxHeartbeats 4000000 in
set_option maxRecDepth 100000 in
theorem o_sky {l : Launch} {G : GG} {a ar ac b : Nat → Nat} {wc wm : va_W} (x : Int32) (v : Int32) (hI : Inv G a ar ac b wc wm) : okOp l G a ar ac b yX7_sky yX8_sky wsX7_sky wsX8_sky ({ frames := 2, cells := 0, slots := 0, locals := 42 } : Room) ({ frames := 2, cells := 0, slots := 0, locals := 45 } : Room) [.int x, .int v] wc wm := by
  obtain ⟨m, er, em, sk, sm, lg, st, be, nx, f1, f2, f3, ik, m1, er1, sk1, m2, er2, sk2, kp, iqf, un, tp, kr, kc, mf, nf, rkv, ckv, ka, wr, rfl, rfl, hd, hs, hg, hik, hi0, hi1, hk⟩ := hI
  refine ⟨_, _, ct_fr (c_X7_sky l G (a 0) (a 4) (a 7) (a 13) (a 15) (nI ik) un tp (a 10) (a 1) (a 2) (a 3) m er sk x v) ([(a 4, .inr (0, [.long (lN m1), .ref (a 5), .ref (a 6)])), (a 5, .inl (G.2.1, 61, .inl er1)), (a 6, .inl (G.2.1, 61, .inl sk1)), (a 7, .inr (0, [.long (lN m2), .ref (a 8), .ref (a 9)])), (a 8, .inl (G.2.1, 61, .inl er2)), (a 9, .inl (G.2.1, 61, .inl sk2)), (a 10, .inr (2, [.ref (a 11), .ref (a 12), .int (nI nx), .int (nI lg.length)])), (a 11, .inl (G.2.1, 16, .inl st)), (a 12, .inl (G.2.1, 16, .inl be))] ++ (sW G (a 13) (a 14) ar 0 8 kr ++ sW G (a 15) (a 16) ac 1 21 kc)) (p_tl pc_1), ct_fr (c_X8_sky l G (b 0) (b 1) (b 2) (b 3) (b 4) (b 5) (b 6) (b 7) (b 8) (b 9) (b 10) (b 11) (b 12) (b 13) (b 14) (b 15) (b 16) (b 17) (b 18) (nI lg.length) un tp (nI kr) (nI kc) (nI (pcN 32 kr + pcN 32 kc)) (nI (ttOf 0 kr 8 + ttOf 1 kc 21)) ka wr sm x v) [(b 1, .inl (G.2.1, 61, .inl (tB m))), (b 2, .inl (G.2.1, 61, .inl em)), (b 4, .inl (G.2.1, 16, .inl f1)), (b 5, .inl (G.2.1, 16, .inl f2)), (b 6, .inl (G.2.1, 16, .inl f3)), (b 7, .inl (G.2.1, 8, .inl (sbF 0 kr))), (b 8, .inl (G.2.1, 8, .inl (snF 0 kr))), (b 9, .inl (G.2.1, 8, .inl (stF 0 kr))), (b 10, .inl (G.2.1, 96, .inl rkv)), (b 11, .inl (G.2.1, 21, .inl (sbF 1 kc))), (b 12, .inl (G.2.1, 21, .inl (snF 1 kc))), (b 13, .inl (G.2.1, 21, .inl (stF 1 kc))), (b 14, .inl (G.2.1, 252, .inl ckv)), (b 15, .inl (G.2.1, 12, .inl mf)), (b 16, .inl (G.2.1, 12, .inl nf)), (b 17, .inl (G.2.1, 366, .inl kp)), (b 18, .inl (G.2.2.1, 2, .inl iqf))] pm_3, ?_, ?_⟩
  · rintro r1 w1 ⟨v1, P1, p1⟩
    exact ⟨_, P1.1⟩
  rintro r1 w1 r2 w2 ⟨v1, P1, p1⟩ ⟨v2, P2, p2⟩
  obtain ⟨rfl, Q1⟩ := P1
  obtain ⟨rfl, Q2⟩ := P2
  rcases Q1 with ⟨h1, rfl⟩ | ⟨h1, rfl⟩
  · rcases Q2 with ⟨h2, rfl⟩ | ⟨h2, rfl⟩
    · exact ⟨_, rfl, by rw [sky_eq hs], _, _, p1.symm.trans (p_tl pc_1), p2.symm.trans pm_3, m, er, em, sk, sm, lg, st, be, nx, f1, f2, f3, ik, m1, er1, sk1, m2, er2, sk2, kp, iqf, un, tp, kr, kc, mf, nf, rkv, ckv, ka, wr, rfl, rfl, hd, hs, hg, hik, hi0, hi1, hk⟩
    · rw [h1] at h2
      cases h2
  · rcases Q2 with ⟨h2, rfl⟩ | ⟨h2, rfl⟩
    · rw [h1] at h2
      cases h2
    · obtain ⟨k, hk1, hk0, rfl⟩ := sky_in h1
      rw [cl_k hk0] at p1 p2
      exact ⟨_, rfl, by rw [sky_eq hs], _, _, p1.symm.trans (p_tl pc_1), p2.symm.trans pm_3, m, er, em, upd sk k v, upd sm k v, lg, st, be, nx, f1, f2, f3, ik, m1, er1, sk1, m2, er2, sk2, kp, iqf, un, tp + 1, kr, kc, mf, nf, rkv, ckv, ka, wr, rfl, rfl, hd, sky_up hs, hg, hik, hi0, hi1, hk⟩

set_option maxHeartbeats 4000000 in
set_option maxRecDepth 100000 in
theorem o_told {l : Launch} {G : GG} {a ar ac b : Nat → Nat} {wc wm : va_W} (x : Int32) (hI : Inv G a ar ac b wc wm) : okOp l G a ar ac b yX7_told yX8_told wsX7_told wsX8_told ({ frames := 2, cells := 0, slots := 0, locals := 41 } : Room) ({ frames := 1, cells := 0, slots := 0, locals := 25 } : Room) [.int x] wc wm := by
  obtain ⟨m, er, em, sk, sm, lg, st, be, nx, f1, f2, f3, ik, m1, er1, sk1, m2, er2, sk2, kp, iqf, un, tp, kr, kc, mf, nf, rkv, ckv, ka, wr, rfl, rfl, hd, hs, hg, hik, hi0, hi1, hk⟩ := hI
  refine ⟨_, _, ct_fr (c_X7_told l G (a 0) (a 4) (a 7) (a 13) (a 15) (nI ik) un tp (a 1) (a 2) (a 3) m er sk (a 10) (a 11) (a 12) st be nx lg.length (a 14) (nI 0) kr (nI (ttOf 0 kr 8)) (a 16) (nI 1) kc (nI (ttOf 1 kc 21)) x (Nat.lt_trans hk.1 (by decide)) (Nat.lt_trans hk.2.1 (by decide))) ([(a 4, .inr (0, [.long (lN m1), .ref (a 5), .ref (a 6)])), (a 5, .inl (G.2.1, 61, .inl er1)), (a 6, .inl (G.2.1, 61, .inl sk1)), (a 7, .inr (0, [.long (lN m2), .ref (a 8), .ref (a 9)])), (a 8, .inl (G.2.1, 61, .inl er2)), (a 9, .inl (G.2.1, 61, .inl sk2))] ++ (((a 14, .inl (G.2.2.2, 8, .inr (.inr (.inr (.inr (fun i => some (ar i))))))) :: fsW ar (fsOf 0 kr) 8) ++ ((a 16, .inl (G.2.2.2, 21, .inr (.inr (.inr (.inr (fun i => some (ac i))))))) :: fsW ac (fsOf 1 kc) 21))) (p_td pc_0), ct_fr (c_X8_told l G (b 0) (b 1) (b 2) (b 3) (b 4) (b 5) (b 6) (b 7) (b 8) (b 9) (b 10) (b 11) (b 12) (b 13) (b 14) (b 15) (b 16) (b 17) (b 18) (nI lg.length) un tp (nI kr) (nI kc) (nI (pcN 32 kr + pcN 32 kc)) (nI (ttOf 0 kr 8 + ttOf 1 kc 21)) ka wr m em sm x) [(b 4, .inl (G.2.1, 16, .inl f1)), (b 5, .inl (G.2.1, 16, .inl f2)), (b 6, .inl (G.2.1, 16, .inl f3)), (b 7, .inl (G.2.1, 8, .inl (sbF 0 kr))), (b 8, .inl (G.2.1, 8, .inl (snF 0 kr))), (b 9, .inl (G.2.1, 8, .inl (stF 0 kr))), (b 10, .inl (G.2.1, 96, .inl rkv)), (b 11, .inl (G.2.1, 21, .inl (sbF 1 kc))), (b 12, .inl (G.2.1, 21, .inl (snF 1 kc))), (b 13, .inl (G.2.1, 21, .inl (stF 1 kc))), (b 14, .inl (G.2.1, 252, .inl ckv)), (b 15, .inl (G.2.1, 12, .inl mf)), (b 16, .inl (G.2.1, 12, .inl nf)), (b 17, .inl (G.2.1, 366, .inl kp)), (b 18, .inl (G.2.2.1, 2, .inl iqf))] pm_2, ?_, ?_⟩
  · rintro r1 w1 ⟨v1, P1, p1⟩
    exact ⟨_, P1.1⟩
  rintro r1 w1 r2 w2 ⟨v1, P1, p1⟩ ⟨v2, P2, p2⟩
  obtain ⟨rfl, rfl⟩ := P1
  obtain ⟨rfl, rfl⟩ := P2
  exact ⟨_, rfl, by rw [td_eq hd hs], _, _, p1.symm.trans (p_td pc_0), p2.symm.trans pm_2, m, er, em, sk, sm, lg, st, be, nx, f1, f2, f3, ik, m1, er1, sk1, m2, er2, sk2, kp, iqf, un, tp, kr, kc, mf, nf, rkv, ckv, ka, wr, rfl, rfl, hd, hs, hg, hik, hi0, hi1, hk⟩

set_option maxHeartbeats 4000000 in
set_option maxRecDepth 100000 in
theorem o_ruler {l : Launch} {G : GG} {a ar ac b : Nat → Nat} {wc wm : va_W} (x : Int32) (v : Int32) (hI : Inv G a ar ac b wc wm) : okOp l G a ar ac b yX7_ruler yX8_ruler wsX7_ruler wsX8_ruler ({ frames := 20, cells := 0, slots := 0, locals := 1149 } : Room) ({ frames := 3, cells := 0, slots := 0, locals := 74 } : Room) [.int x, .int v] wc wm := by
  obtain ⟨m, er, em, sk, sm, lg, st, be, nx, f1, f2, f3, ik, m1, er1, sk1, m2, er2, sk2, kp, iqf, un, tp, kr, kc, mf, nf, rkv, ckv, ka, wr, rfl, rfl, hd, hs, hg, hik, hi0, hi1, hk⟩ := hI
  refine ⟨_, _, ct_fr (c_X7_ruler l G (a 0) (a 4) (a 7) (a 13) (a 15) (nI ik) un tp (a 10) (a 1) (a 14) ar kr x v (Nat.lt_trans hk.1 (by decide))) ([(a 1, .inr (0, [.long (lN m), .ref (a 2), .ref (a 3)])), (a 2, .inl (G.2.1, 61, .inl er)), (a 3, .inl (G.2.1, 61, .inl sk)), (a 4, .inr (0, [.long (lN m1), .ref (a 5), .ref (a 6)])), (a 5, .inl (G.2.1, 61, .inl er1)), (a 6, .inl (G.2.1, 61, .inl sk1)), (a 7, .inr (0, [.long (lN m2), .ref (a 8), .ref (a 9)])), (a 8, .inl (G.2.1, 61, .inl er2)), (a 9, .inl (G.2.1, 61, .inl sk2)), (a 10, .inr (2, [.ref (a 11), .ref (a 12), .int (nI nx), .int (nI lg.length)])), (a 11, .inl (G.2.1, 16, .inl st)), (a 12, .inl (G.2.1, 16, .inl be))] ++ sW G (a 15) (a 16) ac 1 21 kc) (p_s0 pc_2), ct_fr (c_X8_ruler l G (b 0) (b 1) (b 2) (b 3) (b 4) (b 5) (b 6) (b 7) (b 8) (b 9) (b 10) (b 11) (b 12) (b 13) (b 14) (b 15) (b 16) (b 17) (b 18) (nI lg.length) un tp (nI kc) ka wr kr (pcN 32 kr + pcN 32 kc) (ttOf 0 kr 8 + ttOf 1 kc 21) mf nf rkv x v (Nat.lt_trans hk.1 (by decide)) (hk.2.2.1)) [(b 1, .inl (G.2.1, 61, .inl (tB m))), (b 2, .inl (G.2.1, 61, .inl em)), (b 3, .inl (G.2.1, 61, .inl sm)), (b 4, .inl (G.2.1, 16, .inl f1)), (b 5, .inl (G.2.1, 16, .inl f2)), (b 6, .inl (G.2.1, 16, .inl f3)), (b 11, .inl (G.2.1, 21, .inl (sbF 1 kc))), (b 12, .inl (G.2.1, 21, .inl (snF 1 kc))), (b 13, .inl (G.2.1, 21, .inl (stF 1 kc))), (b 14, .inl (G.2.1, 252, .inl ckv)), (b 17, .inl (G.2.1, 366, .inl kp)), (b 18, .inl (G.2.2.1, 2, .inl iqf))] pm_4, ?_, ?_⟩
  · rintro r1 w1 ⟨v1, P1, p1⟩
    rcases P1 with ⟨-, h, -⟩ | ⟨n, -, -, -, -, h, -⟩ <;> exact ⟨_, h⟩
  rintro r1 w1 r2 w2 ⟨v1, P1, p1⟩ ⟨v2, P2, p2⟩
  rcases P1 with ⟨h1, rfl, rfl⟩ | ⟨n, hn1, hn2, rfl, hv, rfl, rfl⟩
  · rcases P2 with ⟨h2, rfl, rfl⟩ | ⟨n, mf2, nf2, rk2, hok, rfl, hv, rfl, hKR2, rfl⟩
    · exact ⟨_, rfl, rfl, _, _, p1.symm.trans (p_s0 pc_2), p2.symm.trans pm_4, m, er, em, sk, sm, lg, st, be, nx, f1, f2, f3, ik, m1, er1, sk1, m2, er2, sk2, kp, iqf, un, tp, kr, kc, mf, nf, rkv, ckv, ka, wr, rfl, rfl, hd, hs, hg, hik, hi0, hi1, hk⟩
    · rw [inR_ok0 hok, hv] at h1
      cases h1
  · have hok : okN 0 n := Or.inl ⟨rfl, hn1, hn2⟩
    rcases P2 with ⟨h2, rfl, rfl⟩ | ⟨n2, mf2, nf2, rk2, hok2, hx, hv2, rfl, hKR2, rfl⟩
    · rw [inR_ok0 hok, hv] at h2
      cases h2
    · obtain rfl : n = n2 := i_eq (by omega) (ok_lt hok2) hx
      rw [kn_pcr (by omega), kn_ttr (by omega)] at p2
      exact ⟨_, rfl, rfl, _, _, p1.symm.trans (p_s0 pc_2), p2.symm.trans pm_4, m, er, em, sk, sm, lg, st, be, nx, f1, f2, f3, ik, m1, er1, sk1, m2, er2, sk2, kp, iqf, un, tp, kr ||| 2 ^ n, kc, mf2, nf2, rk2, ckv, ka, wr, rfl, rfl, hd, hs, hg, hik, hi0, hi1, ⟨kn_lt hk.1 (by omega), hk.2.1, hKR2, hk.2.2.2⟩⟩

set_option maxHeartbeats 4000000 in
set_option maxRecDepth 100000 in
theorem o_stand0 {l : Launch} {G : GG} {a ar ac b : Nat → Nat} {wc wm : va_W} (x : Int32) (v : Int32) (hI : Inv G a ar ac b wc wm) : okOp l G a ar ac b yX7_stand yX8_stand wsX7_stand wsX8_stand ({ frames := 20, cells := 0, slots := 0, locals := 1149 } : Room) ({ frames := 3, cells := 0, slots := 0, locals := 75 } : Room) [.int 0, .int x, .int v] wc wm := by
  obtain ⟨m, er, em, sk, sm, lg, st, be, nx, f1, f2, f3, ik, m1, er1, sk1, m2, er2, sk2, kp, iqf, un, tp, kr, kc, mf, nf, rkv, ckv, ka, wr, rfl, rfl, hd, hs, hg, hik, hi0, hi1, hk⟩ := hI
  refine ⟨_, _, ct_fr (c_X7_stand0 l G (a 0) (a 4) (a 7) (a 13) (a 15) (nI ik) un tp (a 1) (a 2) (a 3) m er sk (a 10) (a 11) (a 12) st be nx lg.length (a 14) ar kr x v (hd.1) (Nat.lt_trans hk.1 (by decide))) ([(a 4, .inr (0, [.long (lN m1), .ref (a 5), .ref (a 6)])), (a 5, .inl (G.2.1, 61, .inl er1)), (a 6, .inl (G.2.1, 61, .inl sk1)), (a 7, .inr (0, [.long (lN m2), .ref (a 8), .ref (a 9)])), (a 8, .inl (G.2.1, 61, .inl er2)), (a 9, .inl (G.2.1, 61, .inl sk2))] ++ sW G (a 15) (a 16) ac 1 21 kc) (p_s0 pc_0), ct_fr (c_X8_stand0 l G (b 0) (b 1) (b 2) (b 3) (b 4) (b 5) (b 6) (b 7) (b 8) (b 9) (b 10) (b 11) (b 12) (b 13) (b 14) (b 15) (b 16) (b 17) (b 18) (nI lg.length) un tp (nI kc) ka wr kr (pcN 32 kr + pcN 32 kc) (ttOf 0 kr 8 + ttOf 1 kc 21) mf nf rkv m em x v (Nat.lt_trans hk.1 (by decide)) (hk.2.2.1) (hd.1)) [(b 3, .inl (G.2.1, 61, .inl sm)), (b 4, .inl (G.2.1, 16, .inl f1)), (b 5, .inl (G.2.1, 16, .inl f2)), (b 6, .inl (G.2.1, 16, .inl f3)), (b 11, .inl (G.2.1, 21, .inl (sbF 1 kc))), (b 12, .inl (G.2.1, 21, .inl (snF 1 kc))), (b 13, .inl (G.2.1, 21, .inl (stF 1 kc))), (b 14, .inl (G.2.1, 252, .inl ckv)), (b 17, .inl (G.2.1, 366, .inl kp)), (b 18, .inl (G.2.2.1, 2, .inl iqf))] pm_5, ?_, ?_⟩
  · rintro r1 w1 ⟨v1, P1, p1⟩
    rcases P1 with ⟨-, h, -⟩ | ⟨n, q, -, -, -, -, -, ⟨-, h, -⟩ | ⟨-, h, -⟩⟩ <;> exact ⟨_, h⟩
  rintro r1 w1 r2 w2 ⟨v1, P1, p1⟩ ⟨v2, P2, p2⟩
  rcases P1 with ⟨h1, rfl, rfl⟩ | ⟨n, q, hn1, hn2, rfl, rfl, hq, Q1⟩
  · rcases P2 with ⟨h2, rfl, rfl⟩ | ⟨n, q, mf2, nf2, rk2, hok, rfl, rfl, hq, hKR2, Q2⟩
    · exact ⟨_, rfl, rfl, _, _, p1.symm.trans (p_s0 pc_0), p2.symm.trans pm_5, m, er, em, sk, sm, lg, st, be, nx, f1, f2, f3, ik, m1, er1, sk1, m2, er2, sk2, kp, iqf, un, tp, kr, kc, mf, nf, rkv, ckv, ka, wr, rfl, rfl, hd, hs, hg, hik, hi0, hi1, hk⟩
    · rw [inR_ok0 hok, inS_t hq] at h1
      cases h1
  · have hok : okN 0 n := Or.inl ⟨rfl, hn1, hn2⟩
    rcases P2 with ⟨h2, rfl, rfl⟩ | ⟨n2, q2, mf2, nf2, rk2, hok2, hx, hy, hq2, hKR2, Q2⟩
    · rw [inR_ok0 hok, inS_t hq] at h2
      cases h2
    · obtain rfl : n = n2 := i_eq (by omega) (ok_lt hok2) hx
      obtain rfl : q = q2 := i_eq (by omega) (by omega) hy
      rcases Q1 with ⟨h1, rfl, rfl⟩ | ⟨h1, rfl, rfl⟩
      · rcases Q2 with ⟨h2, rfl, rfl⟩ | ⟨h2, rfl, rfl⟩
        · rw [kn_pcr (by omega), kn_ttr (by omega)] at p2
          exact ⟨_, rfl, rfl, _, _, p1.symm.trans (p_s0 pc_0), p2.symm.trans pm_5, m, er, em, sk, sm, lg, st, be, nx, f1, f2, f3, ik, m1, er1, sk1, m2, er2, sk2, kp, iqf, un, tp, kr ||| 2 ^ n, kc, mf2, nf2, rk2, ckv, ka, wr, rfl, rfl, hd, hs, hg, hik, hi0, hi1, ⟨kn_lt hk.1 (by omega), hk.2.1, hKR2, hk.2.2.2⟩⟩
        · omega
      · rcases Q2 with ⟨h2, rfl, rfl⟩ | ⟨h2, rfl, rfl⟩
        · omega
        · rw [kn_pcr (by omega), kn_ttr (by omega)] at p2
          exact ⟨_, rfl, rfl, _, _, p1.symm.trans (p_s0 pc_0), p2.symm.trans pm_5, (resT 0 n).2.2.2 * 2 ^ q, fa_fill (stE ((resT 0 n).2.2.2 * 2 ^ q)) er 61, fa_fill (fun _ => 0) em 61, sk, sm, [], st, be, nx, f1, f2, f3, ik, m1, er1, sk1, m2, er2, sk2, kp, iqf, un, tp, kr ||| 2 ^ n, kc, mf2, nf2, rk2, ckv, ka, wr, rfl, rfl, st_dR hok h1, hs, gR_0 hg.2.1, hik, hi0, hi1, ⟨kn_lt hk.1 (by omega), hk.2.1, hKR2, hk.2.2.2⟩⟩

set_option maxHeartbeats 4000000 in
set_option maxRecDepth 100000 in
theorem o_cover {l : Launch} {G : GG} {a ar ac b : Nat → Nat} {wc wm : va_W} (x : Int32) (v : Int32) (hI : Inv G a ar ac b wc wm) : okOp l G a ar ac b yX7_cover yX8_cover wsX7_cover wsX8_cover ({ frames := 20, cells := 0, slots := 0, locals := 1149 } : Room) ({ frames := 3, cells := 0, slots := 0, locals := 75 } : Room) [.int x, .int v] wc wm := by
  obtain ⟨m, er, em, sk, sm, lg, st, be, nx, f1, f2, f3, ik, m1, er1, sk1, m2, er2, sk2, kp, iqf, un, tp, kr, kc, mf, nf, rkv, ckv, ka, wr, rfl, rfl, hd, hs, hg, hik, hi0, hi1, hk⟩ := hI
  refine ⟨_, _, ct_fr (c_X7_cover l G (a 0) (a 4) (a 7) (a 13) (a 15) (nI ik) un tp (a 10) (a 1) (a 16) ac kc x v (Nat.lt_trans hk.2.1 (by decide))) ([(a 1, .inr (0, [.long (lN m), .ref (a 2), .ref (a 3)])), (a 2, .inl (G.2.1, 61, .inl er)), (a 3, .inl (G.2.1, 61, .inl sk)), (a 4, .inr (0, [.long (lN m1), .ref (a 5), .ref (a 6)])), (a 5, .inl (G.2.1, 61, .inl er1)), (a 6, .inl (G.2.1, 61, .inl sk1)), (a 7, .inr (0, [.long (lN m2), .ref (a 8), .ref (a 9)])), (a 8, .inl (G.2.1, 61, .inl er2)), (a 9, .inl (G.2.1, 61, .inl sk2)), (a 10, .inr (2, [.ref (a 11), .ref (a 12), .int (nI nx), .int (nI lg.length)])), (a 11, .inl (G.2.1, 16, .inl st)), (a 12, .inl (G.2.1, 16, .inl be))] ++ sW G (a 13) (a 14) ar 0 8 kr) (p_s1 pc_2), ct_fr (c_X8_cover l G (b 0) (b 1) (b 2) (b 3) (b 4) (b 5) (b 6) (b 7) (b 8) (b 9) (b 10) (b 11) (b 12) (b 13) (b 14) (b 15) (b 16) (b 17) (b 18) (nI lg.length) un tp (nI kr) ka wr kc (pcN 32 kr + pcN 32 kc) (ttOf 0 kr 8 + ttOf 1 kc 21) mf nf ckv x v (Nat.lt_trans hk.2.1 (by decide)) (hk.2.2.2)) [(b 1, .inl (G.2.1, 61, .inl (tB m))), (b 2, .inl (G.2.1, 61, .inl em)), (b 3, .inl (G.2.1, 61, .inl sm)), (b 4, .inl (G.2.1, 16, .inl f1)), (b 5, .inl (G.2.1, 16, .inl f2)), (b 6, .inl (G.2.1, 16, .inl f3)), (b 7, .inl (G.2.1, 8, .inl (sbF 0 kr))), (b 8, .inl (G.2.1, 8, .inl (snF 0 kr))), (b 9, .inl (G.2.1, 8, .inl (stF 0 kr))), (b 10, .inl (G.2.1, 96, .inl rkv)), (b 17, .inl (G.2.1, 366, .inl kp)), (b 18, .inl (G.2.2.1, 2, .inl iqf))] pm_6, ?_, ?_⟩
  · rintro r1 w1 ⟨v1, P1, p1⟩
    rcases P1 with ⟨-, h, -⟩ | ⟨n, -, -, -, -, h, -⟩ <;> exact ⟨_, h⟩
  rintro r1 w1 r2 w2 ⟨v1, P1, p1⟩ ⟨v2, P2, p2⟩
  rcases P1 with ⟨h1, rfl, rfl⟩ | ⟨n, hn1, hn2, rfl, hv, rfl, rfl⟩
  · rcases P2 with ⟨h2, rfl, rfl⟩ | ⟨n, mf2, nf2, rk2, hok, rfl, hv, rfl, hKR2, rfl⟩
    · exact ⟨_, rfl, rfl, _, _, p1.symm.trans (p_s1 pc_2), p2.symm.trans pm_6, m, er, em, sk, sm, lg, st, be, nx, f1, f2, f3, ik, m1, er1, sk1, m2, er2, sk2, kp, iqf, un, tp, kr, kc, mf, nf, rkv, ckv, ka, wr, rfl, rfl, hd, hs, hg, hik, hi0, hi1, hk⟩
    · rw [inR_ok1 hok, hv] at h1
      cases h1
  · have hok : okN 1 n := Or.inr ⟨rfl, hn1, hn2⟩
    rcases P2 with ⟨h2, rfl, rfl⟩ | ⟨n2, mf2, nf2, rk2, hok2, hx, hv2, rfl, hKR2, rfl⟩
    · rw [inR_ok1 hok, hv] at h2
      cases h2
    · obtain rfl : n = n2 := i_eq (by omega) (ok_lt hok2) hx
      rw [kn_pcc (by omega), kn_ttc (by omega)] at p2
      exact ⟨_, rfl, rfl, _, _, p1.symm.trans (p_s1 pc_2), p2.symm.trans pm_6, m, er, em, sk, sm, lg, st, be, nx, f1, f2, f3, ik, m1, er1, sk1, m2, er2, sk2, kp, iqf, un, tp, kr, kc ||| 2 ^ n, mf2, nf2, rkv, rk2, ka, wr, rfl, rfl, hd, hs, hg, hik, hi0, hi1, ⟨hk.1, kn_lt hk.2.1 (by omega), hk.2.2.1, hKR2⟩⟩

set_option maxHeartbeats 4000000 in
set_option maxRecDepth 100000 in
theorem o_stand1 {l : Launch} {G : GG} {a ar ac b : Nat → Nat} {wc wm : va_W} (x : Int32) (v : Int32) (hI : Inv G a ar ac b wc wm) : okOp l G a ar ac b yX7_stand yX8_stand wsX7_stand wsX8_stand ({ frames := 20, cells := 0, slots := 0, locals := 1149 } : Room) ({ frames := 3, cells := 0, slots := 0, locals := 75 } : Room) [.int 1, .int x, .int v] wc wm := by
  obtain ⟨m, er, em, sk, sm, lg, st, be, nx, f1, f2, f3, ik, m1, er1, sk1, m2, er2, sk2, kp, iqf, un, tp, kr, kc, mf, nf, rkv, ckv, ka, wr, rfl, rfl, hd, hs, hg, hik, hi0, hi1, hk⟩ := hI
  refine ⟨_, _, ct_fr (c_X7_stand1 l G (a 0) (a 4) (a 7) (a 13) (a 15) (nI ik) un tp (a 1) (a 2) (a 3) m er sk (a 10) (a 11) (a 12) st be nx lg.length (a 16) ac kc x v (hd.1) (Nat.lt_trans hk.2.1 (by decide))) ([(a 4, .inr (0, [.long (lN m1), .ref (a 5), .ref (a 6)])), (a 5, .inl (G.2.1, 61, .inl er1)), (a 6, .inl (G.2.1, 61, .inl sk1)), (a 7, .inr (0, [.long (lN m2), .ref (a 8), .ref (a 9)])), (a 8, .inl (G.2.1, 61, .inl er2)), (a 9, .inl (G.2.1, 61, .inl sk2))] ++ sW G (a 13) (a 14) ar 0 8 kr) (p_s1 pc_0), ct_fr (c_X8_stand1 l G (b 0) (b 1) (b 2) (b 3) (b 4) (b 5) (b 6) (b 7) (b 8) (b 9) (b 10) (b 11) (b 12) (b 13) (b 14) (b 15) (b 16) (b 17) (b 18) (nI lg.length) un tp (nI kr) ka wr kc (pcN 32 kr + pcN 32 kc) (ttOf 0 kr 8 + ttOf 1 kc 21) mf nf ckv m em x v (Nat.lt_trans hk.2.1 (by decide)) (hk.2.2.2) (hd.1)) [(b 3, .inl (G.2.1, 61, .inl sm)), (b 4, .inl (G.2.1, 16, .inl f1)), (b 5, .inl (G.2.1, 16, .inl f2)), (b 6, .inl (G.2.1, 16, .inl f3)), (b 7, .inl (G.2.1, 8, .inl (sbF 0 kr))), (b 8, .inl (G.2.1, 8, .inl (snF 0 kr))), (b 9, .inl (G.2.1, 8, .inl (stF 0 kr))), (b 10, .inl (G.2.1, 96, .inl rkv)), (b 17, .inl (G.2.1, 366, .inl kp)), (b 18, .inl (G.2.2.1, 2, .inl iqf))] pm_7, ?_, ?_⟩
  · rintro r1 w1 ⟨v1, P1, p1⟩
    rcases P1 with ⟨-, h, -⟩ | ⟨n, q, -, -, -, -, -, ⟨-, h, -⟩ | ⟨-, h, -⟩⟩ <;> exact ⟨_, h⟩
  rintro r1 w1 r2 w2 ⟨v1, P1, p1⟩ ⟨v2, P2, p2⟩
  rcases P1 with ⟨h1, rfl, rfl⟩ | ⟨n, q, hn1, hn2, rfl, rfl, hq, Q1⟩
  · rcases P2 with ⟨h2, rfl, rfl⟩ | ⟨n, q, mf2, nf2, rk2, hok, rfl, rfl, hq, hKR2, Q2⟩
    · exact ⟨_, rfl, rfl, _, _, p1.symm.trans (p_s1 pc_0), p2.symm.trans pm_7, m, er, em, sk, sm, lg, st, be, nx, f1, f2, f3, ik, m1, er1, sk1, m2, er2, sk2, kp, iqf, un, tp, kr, kc, mf, nf, rkv, ckv, ka, wr, rfl, rfl, hd, hs, hg, hik, hi0, hi1, hk⟩
    · rw [inR_ok1 hok, inS_t hq] at h1
      cases h1
  · have hok : okN 1 n := Or.inr ⟨rfl, hn1, hn2⟩
    rcases P2 with ⟨h2, rfl, rfl⟩ | ⟨n2, q2, mf2, nf2, rk2, hok2, hx, hy, hq2, hKR2, Q2⟩
    · rw [inR_ok1 hok, inS_t hq] at h2
      cases h2
    · obtain rfl : n = n2 := i_eq (by omega) (ok_lt hok2) hx
      obtain rfl : q = q2 := i_eq (by omega) (by omega) hy
      rcases Q1 with ⟨h1, rfl, rfl⟩ | ⟨h1, rfl, rfl⟩
      · rcases Q2 with ⟨h2, rfl, rfl⟩ | ⟨h2, rfl, rfl⟩
        · rw [kn_pcc (by omega), kn_ttc (by omega)] at p2
          exact ⟨_, rfl, rfl, _, _, p1.symm.trans (p_s1 pc_0), p2.symm.trans pm_7, m, er, em, sk, sm, lg, st, be, nx, f1, f2, f3, ik, m1, er1, sk1, m2, er2, sk2, kp, iqf, un, tp, kr, kc ||| 2 ^ n, mf2, nf2, rkv, rk2, ka, wr, rfl, rfl, hd, hs, hg, hik, hi0, hi1, ⟨hk.1, kn_lt hk.2.1 (by omega), hk.2.2.1, hKR2⟩⟩
        · omega
      · rcases Q2 with ⟨h2, rfl, rfl⟩ | ⟨h2, rfl, rfl⟩
        · omega
        · rw [kn_pcc (by omega), kn_ttc (by omega)] at p2
          exact ⟨_, rfl, rfl, _, _, p1.symm.trans (p_s1 pc_0), p2.symm.trans pm_7, (resT 1 n).2.2.2 * 2 ^ q, fa_fill (stE ((resT 1 n).2.2.2 * 2 ^ q)) er 61, fa_fill (fun _ => 0) em 61, sk, sm, [], st, be, nx, f1, f2, f3, ik, m1, er1, sk1, m2, er2, sk2, kp, iqf, un, tp, kr, kc ||| 2 ^ n, mf2, nf2, rkv, rk2, ka, wr, rfl, rfl, st_dR hok h1, hs, gR_0 hg.2.1, hik, hi0, hi1, ⟨hk.1, kn_lt hk.2.1 (by omega), hk.2.2.1, hKR2⟩⟩

set_option maxHeartbeats 4000000 in
set_option maxRecDepth 100000 in
theorem o_standX {l : Launch} {G : GG} {a ar ac b : Nat → Nat} {wc wm : va_W} (k : Int32) (x : Int32) (v : Int32) (h0 : k ≠ 0) (h1 : k ≠ 1) (hI : Inv G a ar ac b wc wm) : okOp l G a ar ac b yX7_stand yX8_stand wsX7_stand wsX8_stand ({ frames := 20, cells := 0, slots := 0, locals := 1149 } : Room) ({ frames := 3, cells := 0, slots := 0, locals := 75 } : Room) [.int k, .int x, .int v] wc wm := by
  obtain ⟨m, er, em, sk, sm, lg, st, be, nx, f1, f2, f3, ik, m1, er1, sk1, m2, er2, sk2, kp, iqf, un, tp, kr, kc, mf, nf, rkv, ckv, ka, wr, rfl, rfl, hd, hs, hg, hik, hi0, hi1, hk⟩ := hI
  refine ⟨_, _, ct_fr (c_X7_standX l G (a 0) (a 4) (a 7) (a 13) (a 15) (nI ik) un tp (a 10) (a 1) k x v (h0) (h1)) ([(a 1, .inr (0, [.long (lN m), .ref (a 2), .ref (a 3)])), (a 2, .inl (G.2.1, 61, .inl er)), (a 3, .inl (G.2.1, 61, .inl sk)), (a 4, .inr (0, [.long (lN m1), .ref (a 5), .ref (a 6)])), (a 5, .inl (G.2.1, 61, .inl er1)), (a 6, .inl (G.2.1, 61, .inl sk1)), (a 7, .inr (0, [.long (lN m2), .ref (a 8), .ref (a 9)])), (a 8, .inl (G.2.1, 61, .inl er2)), (a 9, .inl (G.2.1, 61, .inl sk2)), (a 10, .inr (2, [.ref (a 11), .ref (a 12), .int (nI nx), .int (nI lg.length)])), (a 11, .inl (G.2.1, 16, .inl st)), (a 12, .inl (G.2.1, 16, .inl be))] ++ (sW G (a 13) (a 14) ar 0 8 kr ++ sW G (a 15) (a 16) ac 1 21 kc)) (p_tl pc_2), ct_fr (c_X8_standX l G (b 0) (b 1) (b 2) (b 3) (b 4) (b 5) (b 6) (b 7) (b 8) (b 9) (b 10) (b 11) (b 12) (b 13) (b 14) (b 15) (b 16) (b 17) (b 18) (nI lg.length) un tp (nI kr) (nI kc) (nI (pcN 32 kr + pcN 32 kc)) (nI (ttOf 0 kr 8 + ttOf 1 kc 21)) ka wr k x v (h0) (h1)) [(b 1, .inl (G.2.1, 61, .inl (tB m))), (b 2, .inl (G.2.1, 61, .inl em)), (b 3, .inl (G.2.1, 61, .inl sm)), (b 4, .inl (G.2.1, 16, .inl f1)), (b 5, .inl (G.2.1, 16, .inl f2)), (b 6, .inl (G.2.1, 16, .inl f3)), (b 7, .inl (G.2.1, 8, .inl (sbF 0 kr))), (b 8, .inl (G.2.1, 8, .inl (snF 0 kr))), (b 9, .inl (G.2.1, 8, .inl (stF 0 kr))), (b 10, .inl (G.2.1, 96, .inl rkv)), (b 11, .inl (G.2.1, 21, .inl (sbF 1 kc))), (b 12, .inl (G.2.1, 21, .inl (snF 1 kc))), (b 13, .inl (G.2.1, 21, .inl (stF 1 kc))), (b 14, .inl (G.2.1, 252, .inl ckv)), (b 15, .inl (G.2.1, 12, .inl mf)), (b 16, .inl (G.2.1, 12, .inl nf)), (b 17, .inl (G.2.1, 366, .inl kp)), (b 18, .inl (G.2.2.1, 2, .inl iqf))] pm_8, ?_, ?_⟩
  · rintro r1 w1 ⟨v1, P1, p1⟩
    exact ⟨_, P1.1⟩
  rintro r1 w1 r2 w2 ⟨v1, P1, p1⟩ ⟨v2, P2, p2⟩
  obtain ⟨rfl, rfl⟩ := P1
  obtain ⟨rfl, rfl⟩ := P2
  exact ⟨_, rfl, rfl, _, _, p1.symm.trans (p_tl pc_2), p2.symm.trans pm_8, m, er, em, sk, sm, lg, st, be, nx, f1, f2, f3, ik, m1, er1, sk1, m2, er2, sk2, kp, iqf, un, tp, kr, kc, mf, nf, rkv, ckv, ka, wr, rfl, rfl, hd, hs, hg, hik, hi0, hi1, hk⟩

set_option maxHeartbeats 4000000 in
set_option maxRecDepth 100000 in
theorem o_image0 {l : Launch} {G : GG} {a ar ac b : Nat → Nat} {wc wm : va_W}  (hI : Inv G a ar ac b wc wm) : okOp l G a ar ac b yX7_image yX8_image wsX7_image wsX8_image ({ frames := 2, cells := 0, slots := 0, locals := 81 } : Room) ({ frames := 2, cells := 0, slots := 0, locals := 42 } : Room) [.int 0] wc wm := by
  obtain ⟨m, er, em, sk, sm, lg, st, be, nx, f1, f2, f3, ik, m1, er1, sk1, m2, er2, sk2, kp, iqf, un, tp, kr, kc, mf, nf, rkv, ckv, ka, wr, rfl, rfl, hd, hs, hg, hik, hi0, hi1, hk⟩ := hI
  refine ⟨_, _, ct_fr (c_X7_image0 l G (a 0) (a 4) (a 7) (a 13) (a 15) (nI ik) un tp (a 10) (a 1) (a 2) (a 3) m er sk (a 5) (a 6) m1 er1 sk1) ([(a 7, .inr (0, [.long (lN m2), .ref (a 8), .ref (a 9)])), (a 8, .inl (G.2.1, 61, .inl er2)), (a 9, .inl (G.2.1, 61, .inl sk2)), (a 10, .inr (2, [.ref (a 11), .ref (a 12), .int (nI nx), .int (nI lg.length)])), (a 11, .inl (G.2.1, 16, .inl st)), (a 12, .inl (G.2.1, 16, .inl be))] ++ (sW G (a 13) (a 14) ar 0 8 kr ++ sW G (a 15) (a 16) ac 1 21 kc)) (p_tl pc_3), ct_fr (c_X8_image l G (b 0) (b 1) (b 2) (b 3) (b 4) (b 5) (b 6) (b 7) (b 8) (b 9) (b 10) (b 11) (b 12) (b 13) (b 14) (b 15) (b 16) (b 17) (b 18) (nI lg.length) un tp (nI kr) (nI kc) (nI (pcN 32 kr + pcN 32 kc)) (nI (ttOf 0 kr 8 + ttOf 1 kc 21)) ka wr iqf (tB m) em sm kp 0) [(b 4, .inl (G.2.1, 16, .inl f1)), (b 5, .inl (G.2.1, 16, .inl f2)), (b 6, .inl (G.2.1, 16, .inl f3)), (b 7, .inl (G.2.1, 8, .inl (sbF 0 kr))), (b 8, .inl (G.2.1, 8, .inl (snF 0 kr))), (b 9, .inl (G.2.1, 8, .inl (stF 0 kr))), (b 10, .inl (G.2.1, 96, .inl rkv)), (b 11, .inl (G.2.1, 21, .inl (sbF 1 kc))), (b 12, .inl (G.2.1, 21, .inl (snF 1 kc))), (b 13, .inl (G.2.1, 21, .inl (stF 1 kc))), (b 14, .inl (G.2.1, 252, .inl ckv)), (b 15, .inl (G.2.1, 12, .inl mf)), (b 16, .inl (G.2.1, 12, .inl nf))] pm_9, ?_, ?_⟩
  · rintro r1 w1 ⟨v1, P1, p1⟩
    exact ⟨_, P1.1⟩
  rintro r1 w1 r2 w2 ⟨v1, P1, p1⟩ ⟨v2, P2, p2⟩
  obtain ⟨rfl, rfl⟩ := P1
  rcases P2 with ⟨h2, -⟩ | ⟨k, hk0, hx, rfl, rfl⟩
  · exact absurd h2 (by decide)
  · obtain rfl : k = 0 := (i_eq (a := 0) (by decide) (by omega) hx).symm
    obtain ⟨z0, z1, z2, z3⟩ := ik_o0 ik hik
    rw [z0] at p1
    exact ⟨_, rfl, rfl, _, _, p1.symm.trans (p_tl pc_3), p2.symm.trans pm_9, m, er, em, sk, sm, lg, st, be, nx, f1, f2, f3, ik ||| 1, m, er, sk, m2, er2, sk2, kpN m em sm kp 0, upd iqf 0 1, un, tp, kr, kc, mf, nf, rkv, ckv, nI (183 * 0 + 61 + 61 + 61), 1, rfl, rfl, hd, hs, hg, z1, by rw [z2, upd_at]; exact iR_new hd hs (by decide), by rw [z3, fa_upd_ne (show 1 ≠ 0 by decide)]; exact iR_keep hi1 (by decide), hk⟩

set_option maxHeartbeats 4000000 in
set_option maxRecDepth 100000 in
theorem o_image1 {l : Launch} {G : GG} {a ar ac b : Nat → Nat} {wc wm : va_W}  (hI : Inv G a ar ac b wc wm) : okOp l G a ar ac b yX7_image yX8_image wsX7_image wsX8_image ({ frames := 2, cells := 0, slots := 0, locals := 81 } : Room) ({ frames := 2, cells := 0, slots := 0, locals := 42 } : Room) [.int 1] wc wm := by
  obtain ⟨m, er, em, sk, sm, lg, st, be, nx, f1, f2, f3, ik, m1, er1, sk1, m2, er2, sk2, kp, iqf, un, tp, kr, kc, mf, nf, rkv, ckv, ka, wr, rfl, rfl, hd, hs, hg, hik, hi0, hi1, hk⟩ := hI
  refine ⟨_, _, ct_fr (c_X7_image1 l G (a 0) (a 4) (a 7) (a 13) (a 15) (nI ik) un tp (a 10) (a 1) (a 2) (a 3) m er sk (a 8) (a 9) m2 er2 sk2) ([(a 4, .inr (0, [.long (lN m1), .ref (a 5), .ref (a 6)])), (a 5, .inl (G.2.1, 61, .inl er1)), (a 6, .inl (G.2.1, 61, .inl sk1)), (a 10, .inr (2, [.ref (a 11), .ref (a 12), .int (nI nx), .int (nI lg.length)])), (a 11, .inl (G.2.1, 16, .inl st)), (a 12, .inl (G.2.1, 16, .inl be))] ++ (sW G (a 13) (a 14) ar 0 8 kr ++ sW G (a 15) (a 16) ac 1 21 kc)) (p_tl pc_4), ct_fr (c_X8_image l G (b 0) (b 1) (b 2) (b 3) (b 4) (b 5) (b 6) (b 7) (b 8) (b 9) (b 10) (b 11) (b 12) (b 13) (b 14) (b 15) (b 16) (b 17) (b 18) (nI lg.length) un tp (nI kr) (nI kc) (nI (pcN 32 kr + pcN 32 kc)) (nI (ttOf 0 kr 8 + ttOf 1 kc 21)) ka wr iqf (tB m) em sm kp 1) [(b 4, .inl (G.2.1, 16, .inl f1)), (b 5, .inl (G.2.1, 16, .inl f2)), (b 6, .inl (G.2.1, 16, .inl f3)), (b 7, .inl (G.2.1, 8, .inl (sbF 0 kr))), (b 8, .inl (G.2.1, 8, .inl (snF 0 kr))), (b 9, .inl (G.2.1, 8, .inl (stF 0 kr))), (b 10, .inl (G.2.1, 96, .inl rkv)), (b 11, .inl (G.2.1, 21, .inl (sbF 1 kc))), (b 12, .inl (G.2.1, 21, .inl (snF 1 kc))), (b 13, .inl (G.2.1, 21, .inl (stF 1 kc))), (b 14, .inl (G.2.1, 252, .inl ckv)), (b 15, .inl (G.2.1, 12, .inl mf)), (b 16, .inl (G.2.1, 12, .inl nf))] pm_9, ?_, ?_⟩
  · rintro r1 w1 ⟨v1, P1, p1⟩
    exact ⟨_, P1.1⟩
  rintro r1 w1 r2 w2 ⟨v1, P1, p1⟩ ⟨v2, P2, p2⟩
  obtain ⟨rfl, rfl⟩ := P1
  rcases P2 with ⟨h2, -⟩ | ⟨k, hk0, hx, rfl, rfl⟩
  · exact absurd h2 (by decide)
  · obtain rfl : k = 1 := (i_eq (a := 1) (by decide) (by omega) hx).symm
    obtain ⟨z0, z1, z2, z3⟩ := ik_o1 ik hik
    rw [z0] at p1
    exact ⟨_, rfl, rfl, _, _, p1.symm.trans (p_tl pc_4), p2.symm.trans pm_9, m, er, em, sk, sm, lg, st, be, nx, f1, f2, f3, ik ||| 2, m1, er1, sk1, m, er, sk, kpN m em sm kp 183, upd iqf 1 1, un, tp, kr, kc, mf, nf, rkv, ckv, nI (183 * 1 + 61 + 61 + 61), 1, rfl, rfl, hd, hs, hg, z1, by rw [z3, fa_upd_ne (show 0 ≠ 1 by decide)]; exact iR_keep hi0 (by decide), by rw [z2, upd_at]; exact iR_new hd hs (by decide), hk⟩

set_option maxHeartbeats 4000000 in
set_option maxRecDepth 100000 in
theorem o_imageX {l : Launch} {G : GG} {a ar ac b : Nat → Nat} {wc wm : va_W} (x : Int32) (hx9 : inG x = false) (hI : Inv G a ar ac b wc wm) : okOp l G a ar ac b yX7_image yX8_image wsX7_image wsX8_image ({ frames := 2, cells := 0, slots := 0, locals := 81 } : Room) ({ frames := 2, cells := 0, slots := 0, locals := 42 } : Room) [.int x] wc wm := by
  obtain ⟨m, er, em, sk, sm, lg, st, be, nx, f1, f2, f3, ik, m1, er1, sk1, m2, er2, sk2, kp, iqf, un, tp, kr, kc, mf, nf, rkv, ckv, ka, wr, rfl, rfl, hd, hs, hg, hik, hi0, hi1, hk⟩ := hI
  refine ⟨_, _, ct_fr (c_X7_imageX l G (a 0) (a 4) (a 7) (a 13) (a 15) (nI ik) un tp (a 10) (a 1) x (hx9)) ([(a 1, .inr (0, [.long (lN m), .ref (a 2), .ref (a 3)])), (a 2, .inl (G.2.1, 61, .inl er)), (a 3, .inl (G.2.1, 61, .inl sk)), (a 4, .inr (0, [.long (lN m1), .ref (a 5), .ref (a 6)])), (a 5, .inl (G.2.1, 61, .inl er1)), (a 6, .inl (G.2.1, 61, .inl sk1)), (a 7, .inr (0, [.long (lN m2), .ref (a 8), .ref (a 9)])), (a 8, .inl (G.2.1, 61, .inl er2)), (a 9, .inl (G.2.1, 61, .inl sk2)), (a 10, .inr (2, [.ref (a 11), .ref (a 12), .int (nI nx), .int (nI lg.length)])), (a 11, .inl (G.2.1, 16, .inl st)), (a 12, .inl (G.2.1, 16, .inl be))] ++ (sW G (a 13) (a 14) ar 0 8 kr ++ sW G (a 15) (a 16) ac 1 21 kc)) (p_tl pc_2), ct_fr (c_X8_image l G (b 0) (b 1) (b 2) (b 3) (b 4) (b 5) (b 6) (b 7) (b 8) (b 9) (b 10) (b 11) (b 12) (b 13) (b 14) (b 15) (b 16) (b 17) (b 18) (nI lg.length) un tp (nI kr) (nI kc) (nI (pcN 32 kr + pcN 32 kc)) (nI (ttOf 0 kr 8 + ttOf 1 kc 21)) ka wr iqf (tB m) em sm kp x) [(b 4, .inl (G.2.1, 16, .inl f1)), (b 5, .inl (G.2.1, 16, .inl f2)), (b 6, .inl (G.2.1, 16, .inl f3)), (b 7, .inl (G.2.1, 8, .inl (sbF 0 kr))), (b 8, .inl (G.2.1, 8, .inl (snF 0 kr))), (b 9, .inl (G.2.1, 8, .inl (stF 0 kr))), (b 10, .inl (G.2.1, 96, .inl rkv)), (b 11, .inl (G.2.1, 21, .inl (sbF 1 kc))), (b 12, .inl (G.2.1, 21, .inl (snF 1 kc))), (b 13, .inl (G.2.1, 21, .inl (stF 1 kc))), (b 14, .inl (G.2.1, 252, .inl ckv)), (b 15, .inl (G.2.1, 12, .inl mf)), (b 16, .inl (G.2.1, 12, .inl nf))] pm_9, ?_, ?_⟩
  · rintro r1 w1 ⟨v1, P1, p1⟩
    exact ⟨_, P1.1⟩
  rintro r1 w1 r2 w2 ⟨v1, P1, p1⟩ ⟨v2, P2, p2⟩
  obtain ⟨rfl, rfl⟩ := P1
  rcases P2 with ⟨h2, rfl, rfl⟩ | ⟨k, hk0, rfl, -⟩
  · exact ⟨_, rfl, rfl, _, _, p1.symm.trans (p_tl pc_2), p2.symm.trans pm_9, m, er, em, sk, sm, lg, st, be, nx, f1, f2, f3, ik, m1, er1, sk1, m2, er2, sk2, kp, iqf, un, tp, kr, kc, mf, nf, rkv, ckv, ka, wr, rfl, rfl, hd, hs, hg, hik, hi0, hi1, hk⟩
  · exact absurd hx9 (by rcases (show k = 0 ∨ k = 1 by omega) with rfl | rfl <;> decide)

set_option maxHeartbeats 4000000 in
set_option maxRecDepth 100000 in
theorem o_restore0 {l : Launch} {G : GG} {a ar ac b : Nat → Nat} {wc wm : va_W}  (hI : Inv G a ar ac b wc wm) : okOp l G a ar ac b yX7_restore yX8_restore wsX7_restore wsX8_restore ({ frames := 2, cells := 0, slots := 0, locals := 81 } : Room) ({ frames := 2, cells := 0, slots := 0, locals := 42 } : Room) [.int 0] wc wm := by
  obtain ⟨m, er, em, sk, sm, lg, st, be, nx, f1, f2, f3, ik, m1, er1, sk1, m2, er2, sk2, kp, iqf, un, tp, kr, kc, mf, nf, rkv, ckv, ka, wr, rfl, rfl, hd, hs, hg, hik, hi0, hi1, hk⟩ := hI
  refine ⟨_, _, ct_fr (c_X7_restore0 l G (a 0) (a 4) (a 7) (a 13) (a 15) (nI ik) un tp (a 1) (a 2) (a 3) m er sk (a 10) (a 11) (a 12) st be nx lg.length (a 5) (a 6) m1 er1 sk1) ([(a 7, .inr (0, [.long (lN m2), .ref (a 8), .ref (a 9)])), (a 8, .inl (G.2.1, 61, .inl er2)), (a 9, .inl (G.2.1, 61, .inl sk2))] ++ (sW G (a 13) (a 14) ar 0 8 kr ++ sW G (a 15) (a 16) ac 1 21 kc)) (p_tl pc_5), ct_fr (c_X8_restore l G (b 0) (b 1) (b 2) (b 3) (b 4) (b 5) (b 6) (b 7) (b 8) (b 9) (b 10) (b 11) (b 12) (b 13) (b 14) (b 15) (b 16) (b 17) (b 18) (nI lg.length) un tp (nI kr) (nI kc) (nI (pcN 32 kr + pcN 32 kc)) (nI (ttOf 0 kr 8 + ttOf 1 kc 21)) ka wr iqf (tB m) em sm kp 0) [(b 4, .inl (G.2.1, 16, .inl f1)), (b 5, .inl (G.2.1, 16, .inl f2)), (b 6, .inl (G.2.1, 16, .inl f3)), (b 7, .inl (G.2.1, 8, .inl (sbF 0 kr))), (b 8, .inl (G.2.1, 8, .inl (snF 0 kr))), (b 9, .inl (G.2.1, 8, .inl (stF 0 kr))), (b 10, .inl (G.2.1, 96, .inl rkv)), (b 11, .inl (G.2.1, 21, .inl (sbF 1 kc))), (b 12, .inl (G.2.1, 21, .inl (snF 1 kc))), (b 13, .inl (G.2.1, 21, .inl (stF 1 kc))), (b 14, .inl (G.2.1, 252, .inl ckv)), (b 15, .inl (G.2.1, 12, .inl mf)), (b 16, .inl (G.2.1, 12, .inl nf))] pm_9, ?_, ?_⟩
  · rintro r1 w1 ⟨v1, P1, p1⟩
    rcases P1 with ⟨-, h, -⟩ | ⟨-, h, -⟩ <;> exact ⟨_, h⟩
  rintro r1 w1 r2 w2 ⟨v1, P1, p1⟩ ⟨v2, P2, p2⟩
  rcases P2 with ⟨h2, -⟩ | ⟨k, hk0, hx, Q2⟩
  · exact absurd h2 (by decide)
  · obtain rfl : k = 0 := (i_eq (a := 0) (by decide) (by omega) hx).symm
    have e1 := ik_z0 ik hik
    have e2 := iR_v hi0
    rcases P1 with ⟨h1, rfl, rfl⟩ | ⟨h1, rfl, rfl⟩
    · rcases Q2 with ⟨h2, rfl, rfl⟩ | ⟨h2, rfl, rfl⟩
      · exact ⟨_, rfl, rfl, _, _, p1.symm.trans (p_tl pc_5), p2.symm.trans pm_9, m, er, em, sk, sm, lg, st, be, nx, f1, f2, f3, ik, m1, er1, sk1, m2, er2, sk2, kp, iqf, un, tp, kr, kc, mf, nf, rkv, ckv, ka, wr, rfl, rfl, hd, hs, hg, hik, hi0, hi1, hk⟩
      · exact absurd (e2.mpr (e1.mp h1)) h2
    · rcases Q2 with ⟨h2, rfl, rfl⟩ | ⟨h2, rfl, rfl⟩
      · exact absurd (e1.mpr (e2.mp h2)) h1
      · have e3 : ik.testBit 0 = true := by
          cases e : ik.testBit 0 with
          | true => rfl
          | false => exact absurd (e1.mpr e) h1
        have hi := hi0
        rw [e3] at hi
        obtain ⟨y1, y2, y3⟩ := iR_back (o := 183 * 0) (em := em) (sm := sm) hd.1 hi
        rw [y1] at p2
        exact ⟨_, rfl, rfl, _, _, p1.symm.trans (p_tl pc_5), p2.symm.trans pm_9, m1, er1, fa_fill (rdR kp (183 * 0 + 61)) em 61, sk1, fa_fill (rdR kp (183 * 0 + 61 + 61)) sm 61, [], st, be, nx, f1, f2, f3, ik, m1, er1, sk1, m2, er2, sk2, kp, iqf, un, tp, kr, kc, mf, nf, rkv, ckv, nI (183 * 0 + 61 + 61 + 61), 0, rfl, rfl, y2, y3, gR_0 hg.2.1, hik, hi0, hi1, hk⟩

set_option maxHeartbeats 4000000 in
set_option maxRecDepth 100000 in
theorem o_restore1 {l : Launch} {G : GG} {a ar ac b : Nat → Nat} {wc wm : va_W}  (hI : Inv G a ar ac b wc wm) : okOp l G a ar ac b yX7_restore yX8_restore wsX7_restore wsX8_restore ({ frames := 2, cells := 0, slots := 0, locals := 81 } : Room) ({ frames := 2, cells := 0, slots := 0, locals := 42 } : Room) [.int 1] wc wm := by
  obtain ⟨m, er, em, sk, sm, lg, st, be, nx, f1, f2, f3, ik, m1, er1, sk1, m2, er2, sk2, kp, iqf, un, tp, kr, kc, mf, nf, rkv, ckv, ka, wr, rfl, rfl, hd, hs, hg, hik, hi0, hi1, hk⟩ := hI
  refine ⟨_, _, ct_fr (c_X7_restore1 l G (a 0) (a 4) (a 7) (a 13) (a 15) (nI ik) un tp (a 1) (a 2) (a 3) m er sk (a 10) (a 11) (a 12) st be nx lg.length (a 8) (a 9) m2 er2 sk2) ([(a 4, .inr (0, [.long (lN m1), .ref (a 5), .ref (a 6)])), (a 5, .inl (G.2.1, 61, .inl er1)), (a 6, .inl (G.2.1, 61, .inl sk1))] ++ (sW G (a 13) (a 14) ar 0 8 kr ++ sW G (a 15) (a 16) ac 1 21 kc)) (p_tl pc_6), ct_fr (c_X8_restore l G (b 0) (b 1) (b 2) (b 3) (b 4) (b 5) (b 6) (b 7) (b 8) (b 9) (b 10) (b 11) (b 12) (b 13) (b 14) (b 15) (b 16) (b 17) (b 18) (nI lg.length) un tp (nI kr) (nI kc) (nI (pcN 32 kr + pcN 32 kc)) (nI (ttOf 0 kr 8 + ttOf 1 kc 21)) ka wr iqf (tB m) em sm kp 1) [(b 4, .inl (G.2.1, 16, .inl f1)), (b 5, .inl (G.2.1, 16, .inl f2)), (b 6, .inl (G.2.1, 16, .inl f3)), (b 7, .inl (G.2.1, 8, .inl (sbF 0 kr))), (b 8, .inl (G.2.1, 8, .inl (snF 0 kr))), (b 9, .inl (G.2.1, 8, .inl (stF 0 kr))), (b 10, .inl (G.2.1, 96, .inl rkv)), (b 11, .inl (G.2.1, 21, .inl (sbF 1 kc))), (b 12, .inl (G.2.1, 21, .inl (snF 1 kc))), (b 13, .inl (G.2.1, 21, .inl (stF 1 kc))), (b 14, .inl (G.2.1, 252, .inl ckv)), (b 15, .inl (G.2.1, 12, .inl mf)), (b 16, .inl (G.2.1, 12, .inl nf))] pm_9, ?_, ?_⟩
  · rintro r1 w1 ⟨v1, P1, p1⟩
    rcases P1 with ⟨-, h, -⟩ | ⟨-, h, -⟩ <;> exact ⟨_, h⟩
  rintro r1 w1 r2 w2 ⟨v1, P1, p1⟩ ⟨v2, P2, p2⟩
  rcases P2 with ⟨h2, -⟩ | ⟨k, hk0, hx, Q2⟩
  · exact absurd h2 (by decide)
  · obtain rfl : k = 1 := (i_eq (a := 1) (by decide) (by omega) hx).symm
    have e1 := ik_z1 ik hik
    have e2 := iR_v hi1
    rcases P1 with ⟨h1, rfl, rfl⟩ | ⟨h1, rfl, rfl⟩
    · rcases Q2 with ⟨h2, rfl, rfl⟩ | ⟨h2, rfl, rfl⟩
      · exact ⟨_, rfl, rfl, _, _, p1.symm.trans (p_tl pc_6), p2.symm.trans pm_9, m, er, em, sk, sm, lg, st, be, nx, f1, f2, f3, ik, m1, er1, sk1, m2, er2, sk2, kp, iqf, un, tp, kr, kc, mf, nf, rkv, ckv, ka, wr, rfl, rfl, hd, hs, hg, hik, hi0, hi1, hk⟩
      · exact absurd (e2.mpr (e1.mp h1)) h2
    · rcases Q2 with ⟨h2, rfl, rfl⟩ | ⟨h2, rfl, rfl⟩
      · exact absurd (e1.mpr (e2.mp h2)) h1
      · have e3 : ik.testBit 1 = true := by
          cases e : ik.testBit 1 with
          | true => rfl
          | false => exact absurd (e1.mpr e) h1
        have hi := hi1
        rw [e3] at hi
        obtain ⟨y1, y2, y3⟩ := iR_back (o := 183 * 1) (em := em) (sm := sm) hd.1 hi
        rw [y1] at p2
        exact ⟨_, rfl, rfl, _, _, p1.symm.trans (p_tl pc_6), p2.symm.trans pm_9, m2, er2, fa_fill (rdR kp (183 * 1 + 61)) em 61, sk2, fa_fill (rdR kp (183 * 1 + 61 + 61)) sm 61, [], st, be, nx, f1, f2, f3, ik, m1, er1, sk1, m2, er2, sk2, kp, iqf, un, tp, kr, kc, mf, nf, rkv, ckv, nI (183 * 1 + 61 + 61 + 61), 0, rfl, rfl, y2, y3, gR_0 hg.2.1, hik, hi0, hi1, hk⟩

set_option maxHeartbeats 4000000 in
set_option maxRecDepth 100000 in
theorem o_restoreX {l : Launch} {G : GG} {a ar ac b : Nat → Nat} {wc wm : va_W} (x : Int32) (hx9 : inG x = false) (hI : Inv G a ar ac b wc wm) : okOp l G a ar ac b yX7_restore yX8_restore wsX7_restore wsX8_restore ({ frames := 2, cells := 0, slots := 0, locals := 81 } : Room) ({ frames := 2, cells := 0, slots := 0, locals := 42 } : Room) [.int x] wc wm := by
  obtain ⟨m, er, em, sk, sm, lg, st, be, nx, f1, f2, f3, ik, m1, er1, sk1, m2, er2, sk2, kp, iqf, un, tp, kr, kc, mf, nf, rkv, ckv, ka, wr, rfl, rfl, hd, hs, hg, hik, hi0, hi1, hk⟩ := hI
  refine ⟨_, _, ct_fr (c_X7_restoreX l G (a 0) (a 4) (a 7) (a 13) (a 15) (nI ik) un tp (a 10) (a 1) x (hx9)) ([(a 1, .inr (0, [.long (lN m), .ref (a 2), .ref (a 3)])), (a 2, .inl (G.2.1, 61, .inl er)), (a 3, .inl (G.2.1, 61, .inl sk)), (a 4, .inr (0, [.long (lN m1), .ref (a 5), .ref (a 6)])), (a 5, .inl (G.2.1, 61, .inl er1)), (a 6, .inl (G.2.1, 61, .inl sk1)), (a 7, .inr (0, [.long (lN m2), .ref (a 8), .ref (a 9)])), (a 8, .inl (G.2.1, 61, .inl er2)), (a 9, .inl (G.2.1, 61, .inl sk2)), (a 10, .inr (2, [.ref (a 11), .ref (a 12), .int (nI nx), .int (nI lg.length)])), (a 11, .inl (G.2.1, 16, .inl st)), (a 12, .inl (G.2.1, 16, .inl be))] ++ (sW G (a 13) (a 14) ar 0 8 kr ++ sW G (a 15) (a 16) ac 1 21 kc)) (p_tl pc_2), ct_fr (c_X8_restore l G (b 0) (b 1) (b 2) (b 3) (b 4) (b 5) (b 6) (b 7) (b 8) (b 9) (b 10) (b 11) (b 12) (b 13) (b 14) (b 15) (b 16) (b 17) (b 18) (nI lg.length) un tp (nI kr) (nI kc) (nI (pcN 32 kr + pcN 32 kc)) (nI (ttOf 0 kr 8 + ttOf 1 kc 21)) ka wr iqf (tB m) em sm kp x) [(b 4, .inl (G.2.1, 16, .inl f1)), (b 5, .inl (G.2.1, 16, .inl f2)), (b 6, .inl (G.2.1, 16, .inl f3)), (b 7, .inl (G.2.1, 8, .inl (sbF 0 kr))), (b 8, .inl (G.2.1, 8, .inl (snF 0 kr))), (b 9, .inl (G.2.1, 8, .inl (stF 0 kr))), (b 10, .inl (G.2.1, 96, .inl rkv)), (b 11, .inl (G.2.1, 21, .inl (sbF 1 kc))), (b 12, .inl (G.2.1, 21, .inl (snF 1 kc))), (b 13, .inl (G.2.1, 21, .inl (stF 1 kc))), (b 14, .inl (G.2.1, 252, .inl ckv)), (b 15, .inl (G.2.1, 12, .inl mf)), (b 16, .inl (G.2.1, 12, .inl nf))] pm_9, ?_, ?_⟩
  · rintro r1 w1 ⟨v1, P1, p1⟩
    exact ⟨_, P1.1⟩
  rintro r1 w1 r2 w2 ⟨v1, P1, p1⟩ ⟨v2, P2, p2⟩
  obtain ⟨rfl, rfl⟩ := P1
  rcases P2 with ⟨h2, rfl, rfl⟩ | ⟨k, hk0, rfl, -⟩
  · exact ⟨_, rfl, rfl, _, _, p1.symm.trans (p_tl pc_2), p2.symm.trans pm_9, m, er, em, sk, sm, lg, st, be, nx, f1, f2, f3, ik, m1, er1, sk1, m2, er2, sk2, kp, iqf, un, tp, kr, kc, mf, nf, rkv, ckv, ka, wr, rfl, rfl, hd, hs, hg, hik, hi0, hi1, hk⟩
  · exact absurd hx9 (by rcases (show k = 0 ∨ k = 1 by omega) with rfl | rfl <;> decide)
theorem o_stand {l : Launch} {G : GG} {a ar ac b : Nat → Nat} {wc wm : va_W} (k x v : Int32) (hI : Inv G a ar ac b wc wm) : okOp l G a ar ac b yX7_stand yX8_stand wsX7_stand wsX8_stand ({ frames := 20, cells := 0, slots := 0, locals := 1149 } : Room) ({ frames := 3, cells := 0, slots := 0, locals := 75 } : Room) [.int k, .int x, .int v] wc wm := by
  by_cases h0 : k = 0
  · subst h0
    exact o_stand0 x v hI
  · by_cases h1 : k = 1
    · subst h1
      exact o_stand1 x v hI
    · exact o_standX k x v h0 h1 hI
theorem o_image {l : Launch} {G : GG} {a ar ac b : Nat → Nat} {wc wm : va_W} (x : Int32) (hI : Inv G a ar ac b wc wm) : okOp l G a ar ac b yX7_image yX8_image wsX7_image wsX8_image ({ frames := 2, cells := 0, slots := 0, locals := 81 } : Room) ({ frames := 2, cells := 0, slots := 0, locals := 42 } : Room) [.int x] wc wm := by
  cases h : inG x with
  | false => exact o_imageX x h hI
  | true =>
    obtain ⟨k, hk, rfl⟩ := inG_of h
    rcases (show k = 0 ∨ k = 1 by omega) with rfl | rfl
    · exact o_image0 hI
    · exact o_image1 hI
theorem o_restore {l : Launch} {G : GG} {a ar ac b : Nat → Nat} {wc wm : va_W} (x : Int32) (hI : Inv G a ar ac b wc wm) : okOp l G a ar ac b yX7_restore yX8_restore wsX7_restore wsX8_restore ({ frames := 2, cells := 0, slots := 0, locals := 81 } : Room) ({ frames := 2, cells := 0, slots := 0, locals := 42 } : Room) [.int x] wc wm := by
  cases h : inG x with
  | false => exact o_restoreX x h hI
  | true =>
    obtain ⟨k, hk, rfl⟩ := inG_of h
    rcases (show k = 0 ∨ k = 1 by omega) with rfl | rfl
    · exact o_restore0 hI
    · exact o_restore1 hI
