/-! Each call of the class: its answer, and the world behind it. -/
theorem inR_r2 {n : Nat} (h1 : 2 ≤ n) (h2 : n ≤ 7) : inR 0 (nI n) = true := by
  rcases (show n = 2 ∨ n = 3 ∨ n = 4 ∨ n = 5 ∨ n = 6 ∨ n = 7 by omega) with rfl | rfl | rfl | rfl | rfl | rfl <;> decide
theorem inR_20 : ∀ n, n < 21 → 1 ≤ n → inR 1 (nI n) = true := by decide
theorem inR_c2 {n : Nat} (h1 : 1 ≤ n) (h2 : n ≤ 20) : inR 1 (nI n) = true := inR_20 n (by omega) h1
set_option maxHeartbeats 4000000 in
set_option maxRecDepth 100000 in
theorem op_station {l : Launch} {G : GG} {a ar ac : Nat → Nat} {w : va_W} {m : Nat} {er sk : Nat → Int32} {lg : List (Nat × Int32)} {im : Nat × (Nat → Int32) × (Nat → Int32) × Int32} {un tp kr kc : Nat} (i : Int32)  (hI : Dw G a ar ac (m, er, sk, lg, im, un, tp, kr, kc) w) : OP l G a yX7_station wsX7_station ({ frames := 4, cells := 0, slots := 0, locals := 86 } : Room) [.int i] w (mkA m i) (Dw G a ar ac (m, er, sk, lg, im, un, tp, kr, kc)) := by
  obtain ⟨m2, er2, sk2, st, be, nx, rfl, hm, hm1, hn, hc, hC, hk60, hkr, hkc⟩ := hI
  have hm : m < 2 ^ 61 := hm
  have hm1 : im.1 < 2 ^ 61 := hm1
  refine ⟨_, ct_fr (c_X7_station l G (a 0) (a 4) (a 7) (a 13) (a 15) im.2.2.2 (nI un) (nI tp) (a 10) (a 1) (a 2) (a 3) m er sk i hm) ([(a 4, .inr (0, [.long (lN im.1), .ref (a 5), .ref (a 6)])), (a 5, .inl (G.2.1, 61, .inl im.2.1)), (a 6, .inl (G.2.1, 61, .inl im.2.2.1)), (a 7, .inr (0, [.long (lN m2), .ref (a 8), .ref (a 9)])), (a 8, .inl (G.2.1, 61, .inl er2)), (a 9, .inl (G.2.1, 61, .inl sk2)), (a 10, .inr (2, [.ref (a 11), .ref (a 12), .int (nI nx), .int (nI lg.length)])), (a 11, .inl (G.2.1, 16, .inl st)), (a 12, .inl (G.2.1, 16, .inl be))] ++ (sW G (a 13) (a 14) ar 0 8 kr ++ sW G (a 15) (a 16) ac 1 21 kc)) (p_tl pc_1), ?_⟩
  rintro r1 w1 ⟨v1, ⟨rfl, rfl⟩, p1⟩
  exact ⟨rfl, _, p1.symm.trans (p_tl pc_1), m2, er2, sk2, st, be, nx, rfl, hm, hm1, hn, hc, hC, hk60, hkr, hkc⟩
set_option maxHeartbeats 4000000 in
set_option maxRecDepth 100000 in
theorem op_spacing {l : Launch} {G : GG} {a ar ac : Nat → Nat} {w : va_W} {m : Nat} {er sk : Nat → Int32} {lg : List (Nat × Int32)} {im : Nat × (Nat → Int32) × (Nat → Int32) × Int32} {un tp kr kc : Nat} (x : Int32)  (hI : Dw G a ar ac (m, er, sk, lg, im, un, tp, kr, kc) w) : OP l G a yX7_spacing wsX7_spacing ({ frames := 2, cells := 0, slots := 0, locals := 43 } : Room) [.int x] w (spcR m x) (Dw G a ar ac (m, er, sk, lg, im, un, tp, kr, kc)) := by
  obtain ⟨m2, er2, sk2, st, be, nx, rfl, hm, hm1, hn, hc, hC, hk60, hkr, hkc⟩ := hI
  have hm : m < 2 ^ 61 := hm
  have hm1 : im.1 < 2 ^ 61 := hm1
  refine ⟨_, ct_fr (c_X7_spacing l G (a 0) (a 4) (a 7) (a 13) (a 15) im.2.2.2 (nI un) (nI tp) (a 10) (a 1) (a 2) (a 3) m er sk x hm) ([(a 4, .inr (0, [.long (lN im.1), .ref (a 5), .ref (a 6)])), (a 5, .inl (G.2.1, 61, .inl im.2.1)), (a 6, .inl (G.2.1, 61, .inl im.2.2.1)), (a 7, .inr (0, [.long (lN m2), .ref (a 8), .ref (a 9)])), (a 8, .inl (G.2.1, 61, .inl er2)), (a 9, .inl (G.2.1, 61, .inl sk2)), (a 10, .inr (2, [.ref (a 11), .ref (a 12), .int (nI nx), .int (nI lg.length)])), (a 11, .inl (G.2.1, 16, .inl st)), (a 12, .inl (G.2.1, 16, .inl be))] ++ (sW G (a 13) (a 14) ar 0 8 kr ++ sW G (a 15) (a 16) ac 1 21 kc)) (p_tl pc_1), ?_⟩
  rintro r1 w1 ⟨v1, ⟨rfl, rfl⟩, p1⟩
  exact ⟨rfl, _, p1.symm.trans (p_tl pc_1), m2, er2, sk2, st, be, nx, rfl, hm, hm1, hn, hc, hC, hk60, hkr, hkc⟩
set_option maxHeartbeats 4000000 in
set_option maxRecDepth 100000 in
theorem op_facts {l : Launch} {G : GG} {a ar ac : Nat → Nat} {w : va_W} {m : Nat} {er sk : Nat → Int32} {lg : List (Nat × Int32)} {im : Nat × (Nat → Int32) × (Nat → Int32) × Int32} {un tp kr kc : Nat} (x : Int32)  (hI : Dw G a ar ac (m, er, sk, lg, im, un, tp, kr, kc) w) : OP l G a yX7_facts wsX7_facts ({ frames := 6, cells := 0, slots := 0, locals := 131 } : Room) [.int x] w (faR m x) (Dw G a ar ac (m, er, sk, lg, im, un, tp, kr, kc)) := by
  obtain ⟨m2, er2, sk2, st, be, nx, rfl, hm, hm1, hn, hc, hC, hk60, hkr, hkc⟩ := hI
  have hm : m < 2 ^ 61 := hm
  have hm1 : im.1 < 2 ^ 61 := hm1
  refine ⟨_, ct_fr (c_X7_facts l G (a 0) (a 4) (a 7) (a 13) (a 15) im.2.2.2 (nI un) (nI tp) (a 10) (a 1) (a 2) (a 3) m er sk x hm) ([(a 4, .inr (0, [.long (lN im.1), .ref (a 5), .ref (a 6)])), (a 5, .inl (G.2.1, 61, .inl im.2.1)), (a 6, .inl (G.2.1, 61, .inl im.2.2.1)), (a 7, .inr (0, [.long (lN m2), .ref (a 8), .ref (a 9)])), (a 8, .inl (G.2.1, 61, .inl er2)), (a 9, .inl (G.2.1, 61, .inl sk2)), (a 10, .inr (2, [.ref (a 11), .ref (a 12), .int (nI nx), .int (nI lg.length)])), (a 11, .inl (G.2.1, 16, .inl st)), (a 12, .inl (G.2.1, 16, .inl be))] ++ (sW G (a 13) (a 14) ar 0 8 kr ++ sW G (a 15) (a 16) ac 1 21 kc)) (p_tl pc_1), ?_⟩
  rintro r1 w1 ⟨v1, ⟨rfl, rfl⟩, p1⟩
  exact ⟨rfl, _, p1.symm.trans (p_tl pc_1), m2, er2, sk2, st, be, nx, rfl, hm, hm1, hn, hc, hC, hk60, hkr, hkc⟩
set_option maxHeartbeats 4000000 in
set_option maxRecDepth 100000 in
theorem op_left {l : Launch} {G : GG} {a ar ac : Nat → Nat} {w : va_W} {m : Nat} {er sk : Nat → Int32} {lg : List (Nat × Int32)} {im : Nat × (Nat → Int32) × (Nat → Int32) × Int32} {un tp kr kc : Nat} (x : Int32)  (hI : Dw G a ar ac (m, er, sk, lg, im, un, tp, kr, kc) w) : OP l G a yX7_left wsX7_left ({ frames := 4, cells := 0, slots := 0, locals := 87 } : Room) [.int x] w (leftR m x) (Dw G a ar ac (m, er, sk, lg, im, un, tp, kr, kc)) := by
  obtain ⟨m2, er2, sk2, st, be, nx, rfl, hm, hm1, hn, hc, hC, hk60, hkr, hkc⟩ := hI
  have hm : m < 2 ^ 61 := hm
  have hm1 : im.1 < 2 ^ 61 := hm1
  refine ⟨_, ct_fr (c_X7_left l G (a 0) (a 4) (a 7) (a 13) (a 15) im.2.2.2 (nI un) (nI tp) (a 10) (a 1) (a 2) (a 3) m er sk x hm) ([(a 4, .inr (0, [.long (lN im.1), .ref (a 5), .ref (a 6)])), (a 5, .inl (G.2.1, 61, .inl im.2.1)), (a 6, .inl (G.2.1, 61, .inl im.2.2.1)), (a 7, .inr (0, [.long (lN m2), .ref (a 8), .ref (a 9)])), (a 8, .inl (G.2.1, 61, .inl er2)), (a 9, .inl (G.2.1, 61, .inl sk2)), (a 10, .inr (2, [.ref (a 11), .ref (a 12), .int (nI nx), .int (nI lg.length)])), (a 11, .inl (G.2.1, 16, .inl st)), (a 12, .inl (G.2.1, 16, .inl be))] ++ (sW G (a 13) (a 14) ar 0 8 kr ++ sW G (a 15) (a 16) ac 1 21 kc)) (p_tl pc_1), ?_⟩
  rintro r1 w1 ⟨v1, ⟨rfl, rfl⟩, p1⟩
  exact ⟨rfl, _, p1.symm.trans (p_tl pc_1), m2, er2, sk2, st, be, nx, rfl, hm, hm1, hn, hc, hC, hk60, hkr, hkc⟩
set_option maxHeartbeats 4000000 in
set_option maxRecDepth 100000 in
theorem op_missed {l : Launch} {G : GG} {a ar ac : Nat → Nat} {w : va_W} {m : Nat} {er sk : Nat → Int32} {lg : List (Nat × Int32)} {im : Nat × (Nat → Int32) × (Nat → Int32) × Int32} {un tp kr kc : Nat} (i : Int32)  (hI : Dw G a ar ac (m, er, sk, lg, im, un, tp, kr, kc) w) : OP l G a yX7_missed wsX7_missed ({ frames := 5, cells := 0, slots := 0, locals := 113 } : Room) [.int i] w (misR m i) (Dw G a ar ac (m, er, sk, lg, im, un, tp, kr, kc)) := by
  obtain ⟨m2, er2, sk2, st, be, nx, rfl, hm, hm1, hn, hc, hC, hk60, hkr, hkc⟩ := hI
  have hm : m < 2 ^ 61 := hm
  have hm1 : im.1 < 2 ^ 61 := hm1
  refine ⟨_, ct_fr (c_X7_missed l G (a 0) (a 4) (a 7) (a 13) (a 15) im.2.2.2 (nI un) (nI tp) (a 10) (a 1) (a 2) (a 3) m er sk i hm) ([(a 4, .inr (0, [.long (lN im.1), .ref (a 5), .ref (a 6)])), (a 5, .inl (G.2.1, 61, .inl im.2.1)), (a 6, .inl (G.2.1, 61, .inl im.2.2.1)), (a 7, .inr (0, [.long (lN m2), .ref (a 8), .ref (a 9)])), (a 8, .inl (G.2.1, 61, .inl er2)), (a 9, .inl (G.2.1, 61, .inl sk2)), (a 10, .inr (2, [.ref (a 11), .ref (a 12), .int (nI nx), .int (nI lg.length)])), (a 11, .inl (G.2.1, 16, .inl st)), (a 12, .inl (G.2.1, 16, .inl be))] ++ (sW G (a 13) (a 14) ar 0 8 kr ++ sW G (a 15) (a 16) ac 1 21 kc)) (p_tl pc_1), ?_⟩
  rintro r1 w1 ⟨v1, ⟨rfl, rfl⟩, p1⟩
  exact ⟨rfl, _, p1.symm.trans (p_tl pc_1), m2, er2, sk2, st, be, nx, rfl, hm, hm1, hn, hc, hC, hk60, hkr, hkc⟩
set_option maxHeartbeats 4000000 in
set_option maxRecDepth 100000 in
theorem op_sure {l : Launch} {G : GG} {a ar ac : Nat → Nat} {w : va_W} {m : Nat} {er sk : Nat → Int32} {lg : List (Nat × Int32)} {im : Nat × (Nat → Int32) × (Nat → Int32) × Int32} {un tp kr kc : Nat}   (hI : Dw G a ar ac (m, er, sk, lg, im, un, tp, kr, kc) w) : OP l G a yX7_sure wsX7_sure ({ frames := 5, cells := 0, slots := 0, locals := 113 } : Room) [] w (sureR m) (Dw G a ar ac (m, er, sk, lg, im, un, tp, kr, kc)) := by
  obtain ⟨m2, er2, sk2, st, be, nx, rfl, hm, hm1, hn, hc, hC, hk60, hkr, hkc⟩ := hI
  have hm : m < 2 ^ 61 := hm
  have hm1 : im.1 < 2 ^ 61 := hm1
  refine ⟨_, ct_fr (c_X7_sure l G (a 0) (a 4) (a 7) (a 13) (a 15) im.2.2.2 (nI un) (nI tp) (a 10) (a 1) (a 2) (a 3) m er sk  hm) ([(a 4, .inr (0, [.long (lN im.1), .ref (a 5), .ref (a 6)])), (a 5, .inl (G.2.1, 61, .inl im.2.1)), (a 6, .inl (G.2.1, 61, .inl im.2.2.1)), (a 7, .inr (0, [.long (lN m2), .ref (a 8), .ref (a 9)])), (a 8, .inl (G.2.1, 61, .inl er2)), (a 9, .inl (G.2.1, 61, .inl sk2)), (a 10, .inr (2, [.ref (a 11), .ref (a 12), .int (nI nx), .int (nI lg.length)])), (a 11, .inl (G.2.1, 16, .inl st)), (a 12, .inl (G.2.1, 16, .inl be))] ++ (sW G (a 13) (a 14) ar 0 8 kr ++ sW G (a 15) (a 16) ac 1 21 kc)) (p_tl pc_1), ?_⟩
  rintro r1 w1 ⟨v1, ⟨rfl, rfl⟩, p1⟩
  exact ⟨rfl, _, p1.symm.trans (p_tl pc_1), m2, er2, sk2, st, be, nx, rfl, hm, hm1, hn, hc, hC, hk60, hkr, hkc⟩
set_option maxHeartbeats 4000000 in
set_option maxRecDepth 100000 in
theorem op_phase {l : Launch} {G : GG} {a ar ac : Nat → Nat} {w : va_W} {m : Nat} {er sk : Nat → Int32} {lg : List (Nat × Int32)} {im : Nat × (Nat → Int32) × (Nat → Int32) × Int32} {un tp kr kc : Nat} (x : Int32) (y : Int32)  (hI : Dw G a ar ac (m, er, sk, lg, im, un, tp, kr, kc) w) : OP l G a yX7_phase wsX7_phase ({ frames := 4, cells := 0, slots := 0, locals := 83 } : Room) [.int x, .int y] w (phR m er sk x y) (Dw G a ar ac (m, er, sk, lg, im, un, tp, kr, kc)) := by
  obtain ⟨m2, er2, sk2, st, be, nx, rfl, hm, hm1, hn, hc, hC, hk60, hkr, hkc⟩ := hI
  have hm : m < 2 ^ 61 := hm
  have hm1 : im.1 < 2 ^ 61 := hm1
  refine ⟨_, ct_fr (c_X7_phase l G (a 0) (a 4) (a 7) (a 13) (a 15) im.2.2.2 (nI un) (nI tp) (a 10) (a 1) (a 2) (a 3) m er sk x y hm) ([(a 4, .inr (0, [.long (lN im.1), .ref (a 5), .ref (a 6)])), (a 5, .inl (G.2.1, 61, .inl im.2.1)), (a 6, .inl (G.2.1, 61, .inl im.2.2.1)), (a 7, .inr (0, [.long (lN m2), .ref (a 8), .ref (a 9)])), (a 8, .inl (G.2.1, 61, .inl er2)), (a 9, .inl (G.2.1, 61, .inl sk2)), (a 10, .inr (2, [.ref (a 11), .ref (a 12), .int (nI nx), .int (nI lg.length)])), (a 11, .inl (G.2.1, 16, .inl st)), (a 12, .inl (G.2.1, 16, .inl be))] ++ (sW G (a 13) (a 14) ar 0 8 kr ++ sW G (a 15) (a 16) ac 1 21 kc)) (p_tl pc_1), ?_⟩
  rintro r1 w1 ⟨v1, ⟨rfl, rfl⟩, p1⟩
  exact ⟨rfl, _, p1.symm.trans (p_tl pc_1), m2, er2, sk2, st, be, nx, rfl, hm, hm1, hn, hc, hC, hk60, hkr, hkc⟩
set_option maxHeartbeats 4000000 in
set_option maxRecDepth 100000 in
theorem op_closure {l : Launch} {G : GG} {a ar ac : Nat → Nat} {w : va_W} {m : Nat} {er sk : Nat → Int32} {lg : List (Nat × Int32)} {im : Nat × (Nat → Int32) × (Nat → Int32) × Int32} {un tp kr kc : Nat} (x : Int32) (y : Int32) (y3 : Int32)  (hI : Dw G a ar ac (m, er, sk, lg, im, un, tp, kr, kc) w) : OP l G a yX7_closure wsX7_closure ({ frames := 4, cells := 0, slots := 0, locals := 83 } : Room) [.int x, .int y, .int y3] w (clR m er sk x y y3) (Dw G a ar ac (m, er, sk, lg, im, un, tp, kr, kc)) := by
  obtain ⟨m2, er2, sk2, st, be, nx, rfl, hm, hm1, hn, hc, hC, hk60, hkr, hkc⟩ := hI
  have hm : m < 2 ^ 61 := hm
  have hm1 : im.1 < 2 ^ 61 := hm1
  refine ⟨_, ct_fr (c_X7_closure l G (a 0) (a 4) (a 7) (a 13) (a 15) im.2.2.2 (nI un) (nI tp) (a 10) (a 1) (a 2) (a 3) m er sk x y y3 hm) ([(a 4, .inr (0, [.long (lN im.1), .ref (a 5), .ref (a 6)])), (a 5, .inl (G.2.1, 61, .inl im.2.1)), (a 6, .inl (G.2.1, 61, .inl im.2.2.1)), (a 7, .inr (0, [.long (lN m2), .ref (a 8), .ref (a 9)])), (a 8, .inl (G.2.1, 61, .inl er2)), (a 9, .inl (G.2.1, 61, .inl sk2)), (a 10, .inr (2, [.ref (a 11), .ref (a 12), .int (nI nx), .int (nI lg.length)])), (a 11, .inl (G.2.1, 16, .inl st)), (a 12, .inl (G.2.1, 16, .inl be))] ++ (sW G (a 13) (a 14) ar 0 8 kr ++ sW G (a 15) (a 16) ac 1 21 kc)) (p_tl pc_1), ?_⟩
  rintro r1 w1 ⟨v1, ⟨rfl, rfl⟩, p1⟩
  exact ⟨rfl, _, p1.symm.trans (p_tl pc_1), m2, er2, sk2, st, be, nx, rfl, hm, hm1, hn, hc, hC, hk60, hkr, hkc⟩
set_option maxHeartbeats 4000000 in
set_option maxRecDepth 100000 in
theorem op_told {l : Launch} {G : GG} {a ar ac : Nat → Nat} {w : va_W} {m : Nat} {er sk : Nat → Int32} {lg : List (Nat × Int32)} {im : Nat × (Nat → Int32) × (Nat → Int32) × Int32} {un tp kr kc : Nat} (x : Int32)  (hI : Dw G a ar ac (m, er, sk, lg, im, un, tp, kr, kc) w) : OP l G a yX7_told wsX7_told ({ frames := 2, cells := 0, slots := 0, locals := 41 } : Room) [.int x] w (tdR er sk lg.length kr kc (nI (ttOf 0 kr 8)) (nI (ttOf 1 kc 21)) (nI un) (nI tp) x) (Dw G a ar ac (m, er, sk, lg, im, un, tp, kr, kc)) := by
  obtain ⟨m2, er2, sk2, st, be, nx, rfl, hm, hm1, hn, hc, hC, hk60, hkr, hkc⟩ := hI
  have hm : m < 2 ^ 61 := hm
  have hm1 : im.1 < 2 ^ 61 := hm1
  refine ⟨_, ct_fr (c_X7_told l G (a 0) (a 4) (a 7) (a 13) (a 15) im.2.2.2 (nI un) (nI tp) (a 1) (a 2) (a 3) m er sk (a 10) (a 11) (a 12) st be nx lg.length (a 14) (nI 0) kr (nI (ttOf 0 kr 8)) (a 16) (nI 1) kc (nI (ttOf 1 kc 21)) x (Nat.lt_trans hkr (by decide)) (Nat.lt_trans hkc (by decide))) ([(a 4, .inr (0, [.long (lN im.1), .ref (a 5), .ref (a 6)])), (a 5, .inl (G.2.1, 61, .inl im.2.1)), (a 6, .inl (G.2.1, 61, .inl im.2.2.1)), (a 7, .inr (0, [.long (lN m2), .ref (a 8), .ref (a 9)])), (a 8, .inl (G.2.1, 61, .inl er2)), (a 9, .inl (G.2.1, 61, .inl sk2))] ++ (((a 14, .inl (G.2.2.2, 8, .inr (.inr (.inr (.inr (fun i => some (ar i))))))) :: fsW ar (fsOf 0 kr) 8) ++ ((a 16, .inl (G.2.2.2, 21, .inr (.inr (.inr (.inr (fun i => some (ac i))))))) :: fsW ac (fsOf 1 kc) 21))) (p_td pc_0), ?_⟩
  rintro r1 w1 ⟨v1, ⟨rfl, rfl⟩, p1⟩
  exact ⟨rfl, _, p1.symm.trans (p_td pc_0), m2, er2, sk2, st, be, nx, rfl, hm, hm1, hn, hc, hC, hk60, hkr, hkc⟩
set_option maxHeartbeats 4000000 in
set_option maxRecDepth 100000 in
theorem op_put {l : Launch} {G : GG} {a ar ac : Nat → Nat} {w : va_W} {m : Nat} {er sk : Nat → Int32} {lg : List (Nat × Int32)} {im : Nat × (Nat → Int32) × (Nat → Int32) × Int32} {un tp kr kc : Nat} (k : Nat) (hk : k ≤ 60) (hb : m.testBit k = false) (hlt : pcN 64 m < 12) (hI : Dw G a ar ac (m, er, sk, lg, im, un, tp, kr, kc) w) : OP l G a yX7_put wsX7_put ({ frames := 4, cells := 0, slots := 0, locals := 87 } : Room) [.int (nI k)] w (nI (pcN 64 (bcm m k 0))) (Dw G a ar ac (bcm m k 0, upd er k 0, sk, lgN (k, er k) lg, im, un, tp, kr, kc)) := by
  obtain ⟨m2, er2, sk2, st, be, nx, rfl, hm, hm1, hn, hc, hC, hk60, hkr, hkc⟩ := hI
  have hm : m < 2 ^ 61 := hm
  have hm1 : im.1 < 2 ^ 61 := hm1
  refine ⟨_, ct_fr (c_X7_put l G (a 0) (a 4) (a 7) (a 13) (a 15) im.2.2.2 (nI un) (nI tp) (a 1) (a 2) (a 3) m er sk (a 10) (a 11) (a 12) st be nx lg.length (nI k) hm hn hc) ([(a 4, .inr (0, [.long (lN im.1), .ref (a 5), .ref (a 6)])), (a 5, .inl (G.2.1, 61, .inl im.2.1)), (a 6, .inl (G.2.1, 61, .inl im.2.2.1)), (a 7, .inr (0, [.long (lN m2), .ref (a 8), .ref (a 9)])), (a 8, .inl (G.2.1, 61, .inl er2)), (a 9, .inl (G.2.1, 61, .inl sk2))] ++ (sW G (a 13) (a 14) ar 0 8 kr ++ sW G (a 15) (a 16) ac 1 21 kc)) (p_tl pc_0), ?_⟩
  rintro r1 w1 ⟨v1, P1, p1⟩
  obtain ⟨rfl, Q1⟩ := P1
  have hok : putOk m (nI k) = true := by unfold putOk; rw [inS_t hk, stn_nI hk, hb, decide_eq_true hlt]; rfl
  rcases Q1 with ⟨h1, rfl⟩ | ⟨h1, rfl⟩
  · rw [hok] at h1
    cases h1
  · rw [cl_k hk, ← lgN_len (x := (k, er k)) hc] at p1
    refine ⟨by unfold putR; rw [if_pos (inS_t hk), if_neg (by rw [stn_nI hk, hb]; decide), if_pos hlt, cl_k hk], _, p1.symm.trans (p_tl pc_0), m2, er2, sk2, upd st nx (nI k), upd be nx (er k), (nx + 1) % 16, rfl, bcm_lt (v := 0) hm hk, hm1, Nat.mod_lt _ (by decide), lgN_le hc, lgN_C hn hc hC, lgN_in hk hk60, hkr, hkc⟩
set_option maxHeartbeats 4000000 in
set_option maxRecDepth 100000 in
theorem op_putF {l : Launch} {G : GG} {a ar ac : Nat → Nat} {w : va_W} {m : Nat} {er sk : Nat → Int32} {lg : List (Nat × Int32)} {im : Nat × (Nat → Int32) × (Nat → Int32) × Int32} {un tp kr kc : Nat} (x : Int32) (hok : putOk m x = false) (hI : Dw G a ar ac (m, er, sk, lg, im, un, tp, kr, kc) w) : OP l G a yX7_put wsX7_put ({ frames := 4, cells := 0, slots := 0, locals := 87 } : Room) [.int x] w (putR m x) (Dw G a ar ac (m, er, sk, lg, im, un, tp, kr, kc)) := by
  obtain ⟨m2, er2, sk2, st, be, nx, rfl, hm, hm1, hn, hc, hC, hk60, hkr, hkc⟩ := hI
  have hm : m < 2 ^ 61 := hm
  have hm1 : im.1 < 2 ^ 61 := hm1
  refine ⟨_, ct_fr (c_X7_put l G (a 0) (a 4) (a 7) (a 13) (a 15) im.2.2.2 (nI un) (nI tp) (a 1) (a 2) (a 3) m er sk (a 10) (a 11) (a 12) st be nx lg.length x hm hn hc) ([(a 4, .inr (0, [.long (lN im.1), .ref (a 5), .ref (a 6)])), (a 5, .inl (G.2.1, 61, .inl im.2.1)), (a 6, .inl (G.2.1, 61, .inl im.2.2.1)), (a 7, .inr (0, [.long (lN m2), .ref (a 8), .ref (a 9)])), (a 8, .inl (G.2.1, 61, .inl er2)), (a 9, .inl (G.2.1, 61, .inl sk2))] ++ (sW G (a 13) (a 14) ar 0 8 kr ++ sW G (a 15) (a 16) ac 1 21 kc)) (p_tl pc_0), ?_⟩
  rintro r1 w1 ⟨v1, P1, p1⟩
  obtain ⟨rfl, Q1⟩ := P1
  rcases Q1 with ⟨h1, rfl⟩ | ⟨h1, rfl⟩
  · exact ⟨rfl, _, p1.symm.trans (p_tl pc_0), m2, er2, sk2, st, be, nx, rfl, hm, hm1, hn, hc, hC, hk60, hkr, hkc⟩
  · rw [hok] at h1
    cases h1
set_option maxHeartbeats 4000000 in
set_option maxRecDepth 100000 in
theorem op_lift {l : Launch} {G : GG} {a ar ac : Nat → Nat} {w : va_W} {m : Nat} {er sk : Nat → Int32} {lg : List (Nat × Int32)} {im : Nat × (Nat → Int32) × (Nat → Int32) × Int32} {un tp kr kc : Nat} (k : Nat) (hk : k ≤ 60) (hb : m.testBit k = true) (hI : Dw G a ar ac (m, er, sk, lg, im, un, tp, kr, kc) w) : OP l G a yX7_lift wsX7_lift ({ frames := 4, cells := 0, slots := 0, locals := 87 } : Room) [.int (nI k)] w (nI (pcN 64 (bcm m k (-6)))) (Dw G a ar ac (bcm m k (-6), upd er k (-6), sk, lgN (k, er k) lg, im, un, tp, kr, kc)) := by
  obtain ⟨m2, er2, sk2, st, be, nx, rfl, hm, hm1, hn, hc, hC, hk60, hkr, hkc⟩ := hI
  have hm : m < 2 ^ 61 := hm
  have hm1 : im.1 < 2 ^ 61 := hm1
  refine ⟨_, ct_fr (c_X7_lift l G (a 0) (a 4) (a 7) (a 13) (a 15) im.2.2.2 (nI un) (nI tp) (a 1) (a 2) (a 3) m er sk (a 10) (a 11) (a 12) st be nx lg.length (nI k) hm hn hc) ([(a 4, .inr (0, [.long (lN im.1), .ref (a 5), .ref (a 6)])), (a 5, .inl (G.2.1, 61, .inl im.2.1)), (a 6, .inl (G.2.1, 61, .inl im.2.2.1)), (a 7, .inr (0, [.long (lN m2), .ref (a 8), .ref (a 9)])), (a 8, .inl (G.2.1, 61, .inl er2)), (a 9, .inl (G.2.1, 61, .inl sk2))] ++ (sW G (a 13) (a 14) ar 0 8 kr ++ sW G (a 15) (a 16) ac 1 21 kc)) (p_tl pc_0), ?_⟩
  rintro r1 w1 ⟨v1, P1, p1⟩
  obtain ⟨rfl, Q1⟩ := P1
  have hok : stn m (nI k) = true := by rw [stn_nI hk]; exact hb
  rcases Q1 with ⟨h1, rfl⟩ | ⟨h1, rfl⟩
  · rw [hok] at h1
    cases h1
  · rw [cl_k hk, ← lgN_len (x := (k, er k)) hc] at p1
    refine ⟨by unfold liftR; rw [if_pos (by rw [stn_nI hk]; exact hb), cl_k hk], _, p1.symm.trans (p_tl pc_0), m2, er2, sk2, upd st nx (nI k), upd be nx (er k), (nx + 1) % 16, rfl, bcm_lt (v := -6) hm hk, hm1, Nat.mod_lt _ (by decide), lgN_le hc, lgN_C hn hc hC, lgN_in hk hk60, hkr, hkc⟩
set_option maxHeartbeats 4000000 in
set_option maxRecDepth 100000 in
theorem op_error {l : Launch} {G : GG} {a ar ac : Nat → Nat} {w : va_W} {m : Nat} {er sk : Nat → Int32} {lg : List (Nat × Int32)} {im : Nat × (Nat → Int32) × (Nat → Int32) × Int32} {un tp kr kc : Nat} (k : Nat) (v : Int32) (hk : k ≤ 60) (hb : m.testBit k = true) (hv : inP v = true) (hI : Dw G a ar ac (m, er, sk, lg, im, un, tp, kr, kc) w) : OP l G a yX7_error wsX7_error ({ frames := 4, cells := 0, slots := 0, locals := 87 } : Room) [.int (nI k), .int v] w (er k) (Dw G a ar ac (bcm m k v, upd er k v, sk, lgN (k, er k) lg, im, un, tp + 1, kr, kc)) := by
  obtain ⟨m2, er2, sk2, st, be, nx, rfl, hm, hm1, hn, hc, hC, hk60, hkr, hkc⟩ := hI
  have hm : m < 2 ^ 61 := hm
  have hm1 : im.1 < 2 ^ 61 := hm1
  refine ⟨_, ct_fr (c_X7_error l G (a 0) (a 4) (a 7) (a 13) (a 15) im.2.2.2 (nI un) (nI tp) (a 1) (a 2) (a 3) m er sk (a 10) (a 11) (a 12) st be nx lg.length (nI k) v hm hn hc) ([(a 4, .inr (0, [.long (lN im.1), .ref (a 5), .ref (a 6)])), (a 5, .inl (G.2.1, 61, .inl im.2.1)), (a 6, .inl (G.2.1, 61, .inl im.2.2.1)), (a 7, .inr (0, [.long (lN m2), .ref (a 8), .ref (a 9)])), (a 8, .inl (G.2.1, 61, .inl er2)), (a 9, .inl (G.2.1, 61, .inl sk2))] ++ (sW G (a 13) (a 14) ar 0 8 kr ++ sW G (a 15) (a 16) ac 1 21 kc)) (p_tl pc_0), ?_⟩
  rintro r1 w1 ⟨v1, P1, p1⟩
  obtain ⟨rfl, Q1⟩ := P1
  have hok : errOk m (nI k) v = true := by unfold errOk; rw [stn_nI hk, hb, hv]; rfl
  rcases Q1 with ⟨h1, rfl⟩ | ⟨h1, rfl⟩
  · rw [hok] at h1
    cases h1
  · rw [cl_k hk, ← lgN_len (x := (k, er k)) hc] at p1
    refine ⟨by unfold errR; rw [if_pos (by rw [stn_nI hk]; exact hb), if_pos hv, cl_k hk], _, p1.symm.trans (p_tl pc_0), m2, er2, sk2, upd st nx (nI k), upd be nx (er k), (nx + 1) % 16, by rw [nI_1]; rfl, bcm_lt (v := v) hm hk, hm1, Nat.mod_lt _ (by decide), lgN_le hc, lgN_C hn hc hC, lgN_in hk hk60, hkr, hkc⟩
set_option maxHeartbeats 4000000 in
set_option maxRecDepth 100000 in
theorem op_sky {l : Launch} {G : GG} {a ar ac : Nat → Nat} {w : va_W} {m : Nat} {er sk : Nat → Int32} {lg : List (Nat × Int32)} {im : Nat × (Nat → Int32) × (Nat → Int32) × Int32} {un tp kr kc : Nat} (k : Nat) (v : Int32) (h1 : 1 ≤ k) (hk : k ≤ 60) (hv : inP v = true) (hI : Dw G a ar ac (m, er, sk, lg, im, un, tp, kr, kc) w) : OP l G a yX7_sky wsX7_sky ({ frames := 2, cells := 0, slots := 0, locals := 42 } : Room) [.int (nI k), .int v] w (sk k) (Dw G a ar ac (m, er, upd sk k v, lg, im, un, tp + 1, kr, kc)) := by
  obtain ⟨m2, er2, sk2, st, be, nx, rfl, hm, hm1, hn, hc, hC, hk60, hkr, hkc⟩ := hI
  have hm : m < 2 ^ 61 := hm
  have hm1 : im.1 < 2 ^ 61 := hm1
  refine ⟨_, ct_fr (c_X7_sky l G (a 0) (a 4) (a 7) (a 13) (a 15) im.2.2.2 (nI un) (nI tp) (a 10) (a 1) (a 2) (a 3) m er sk (nI k) v) ([(a 4, .inr (0, [.long (lN im.1), .ref (a 5), .ref (a 6)])), (a 5, .inl (G.2.1, 61, .inl im.2.1)), (a 6, .inl (G.2.1, 61, .inl im.2.2.1)), (a 7, .inr (0, [.long (lN m2), .ref (a 8), .ref (a 9)])), (a 8, .inl (G.2.1, 61, .inl er2)), (a 9, .inl (G.2.1, 61, .inl sk2)), (a 10, .inr (2, [.ref (a 11), .ref (a 12), .int (nI nx), .int (nI lg.length)])), (a 11, .inl (G.2.1, 16, .inl st)), (a 12, .inl (G.2.1, 16, .inl be))] ++ (sW G (a 13) (a 14) ar 0 8 kr ++ sW G (a 15) (a 16) ac 1 21 kc)) (p_tl pc_1), ?_⟩
  rintro r1 w1 ⟨v1, P1, p1⟩
  obtain ⟨rfl, Q1⟩ := P1
  have hok : skyOk (nI k) v = true := by unfold skyOk; rw [inL_nI (by omega), hv, decide_eq_true h1, decide_eq_true hk]; rfl
  rcases Q1 with ⟨h2, rfl⟩ | ⟨h2, rfl⟩
  · rw [hok] at h2
    cases h2
  · rw [cl_k hk] at p1
    exact ⟨by unfold skyR; rw [if_pos hok, cl_k hk], _, p1.symm.trans (p_tl pc_1), m2, er2, sk2, st, be, nx, by rw [nI_1]; rfl, hm, hm1, hn, hc, hC, hk60, hkr, hkc⟩
set_option maxHeartbeats 4000000 in
set_option maxRecDepth 100000 in
theorem op_undo {l : Launch} {G : GG} {a ar ac : Nat → Nat} {w : va_W} {m : Nat} {er sk : Nat → Int32} {lg : List (Nat × Int32)} {im : Nat × (Nat → Int32) × (Nat → Int32) × Int32} {un tp kr kc : Nat} (k : Nat) (b : Int32) (t : List (Nat × Int32))  (hI : Dw G a ar ac (m, er, sk, (k, b) :: t, im, un, tp, kr, kc) w) : OP l G a yX7_undo wsX7_undo ({ frames := 3, cells := 0, slots := 0, locals := 62 } : Room) [] w (nI t.length) (Dw G a ar ac (bcm m k b, upd er k b, sk, t, im, un + 1, tp, kr, kc)) := by
  obtain ⟨m2, er2, sk2, st, be, nx, rfl, hm, hm1, hn, hc, hC, hk60, hkr, hkc⟩ := hI
  have hm : m < 2 ^ 61 := hm
  have hm1 : im.1 < 2 ^ 61 := hm1
  refine ⟨_, ct_fr (c_X7_undo l G (a 0) (a 4) (a 7) (a 13) (a 15) im.2.2.2 (nI un) (nI tp) (a 1) (a 2) (a 3) m er sk (a 10) (a 11) (a 12) st be nx ((k, b) :: t).length k hn hc (fun _ => ⟨hC.1, hk60 _ List.mem_cons_self⟩)) ([(a 4, .inr (0, [.long (lN im.1), .ref (a 5), .ref (a 6)])), (a 5, .inl (G.2.1, 61, .inl im.2.1)), (a 6, .inl (G.2.1, 61, .inl im.2.2.1)), (a 7, .inr (0, [.long (lN m2), .ref (a 8), .ref (a 9)])), (a 8, .inl (G.2.1, 61, .inl er2)), (a 9, .inl (G.2.1, 61, .inl sk2))] ++ (sW G (a 13) (a 14) ar 0 8 kr ++ sW G (a 15) (a 16) ac 1 21 kc)) (p_tl pc_0), ?_⟩
  rintro r1 w1 ⟨v1, P1, p1⟩
  rcases P1 with ⟨h1, -⟩ | ⟨-, rfl, rfl⟩
  · exact absurd h1 (by simp)
  · have e : ((k, b) :: t).length - 1 = t.length := rfl
    have hc2 : t.length + 1 ≤ 16 := hc
    have hkk : k ≤ 60 := hk60 (k, b) List.mem_cons_self
    rw [hC.2.1, e] at p1
    exact ⟨rfl, _, p1.symm.trans (p_tl pc_0), m2, er2, sk2, st, be, (nx + 15) % 16, by rw [nI_1]; rfl, bcm_lt hm hkk, hm1, Nat.mod_lt _ (by decide), by show t.length ≤ 16; omega, hC.2.2, fun q hq => hk60 q (List.mem_cons_of_mem _ hq), hkr, hkc⟩
set_option maxHeartbeats 4000000 in
set_option maxRecDepth 100000 in
theorem op_undo0 {l : Launch} {G : GG} {a ar ac : Nat → Nat} {w : va_W} {m : Nat} {er sk : Nat → Int32} {lg : List (Nat × Int32)} {im : Nat × (Nat → Int32) × (Nat → Int32) × Int32} {un tp kr kc : Nat}   (hI : Dw G a ar ac (m, er, sk, [], im, un, tp, kr, kc) w) : OP l G a yX7_undo wsX7_undo ({ frames := 3, cells := 0, slots := 0, locals := 62 } : Room) [] w (-5) (Dw G a ar ac (m, er, sk, [], im, un, tp, kr, kc)) := by
  obtain ⟨m2, er2, sk2, st, be, nx, rfl, hm, hm1, hn, hc, hC, hk60, hkr, hkc⟩ := hI
  have hm : m < 2 ^ 61 := hm
  have hm1 : im.1 < 2 ^ 61 := hm1
  refine ⟨_, ct_fr (c_X7_undo l G (a 0) (a 4) (a 7) (a 13) (a 15) im.2.2.2 (nI un) (nI tp) (a 1) (a 2) (a 3) m er sk (a 10) (a 11) (a 12) st be nx ([] : List (Nat × Int32)).length 0 hn hc (fun z => absurd rfl z)) ([(a 4, .inr (0, [.long (lN im.1), .ref (a 5), .ref (a 6)])), (a 5, .inl (G.2.1, 61, .inl im.2.1)), (a 6, .inl (G.2.1, 61, .inl im.2.2.1)), (a 7, .inr (0, [.long (lN m2), .ref (a 8), .ref (a 9)])), (a 8, .inl (G.2.1, 61, .inl er2)), (a 9, .inl (G.2.1, 61, .inl sk2))] ++ (sW G (a 13) (a 14) ar 0 8 kr ++ sW G (a 15) (a 16) ac 1 21 kc)) (p_tl pc_0), ?_⟩
  rintro r1 w1 ⟨v1, P1, p1⟩
  rcases P1 with ⟨-, rfl, rfl⟩ | ⟨h1, -⟩
  · exact ⟨rfl, _, p1.symm.trans (p_tl pc_0), m2, er2, sk2, st, be, nx, rfl, hm, hm1, hn, hc, hC, hk60, hkr, hkc⟩
  · exact absurd rfl h1
set_option maxHeartbeats 4000000 in
set_option maxRecDepth 100000 in
theorem op_ruler {l : Launch} {G : GG} {a ar ac : Nat → Nat} {w : va_W} {m : Nat} {er sk : Nat → Int32} {lg : List (Nat × Int32)} {im : Nat × (Nat → Int32) × (Nat → Int32) × Int32} {un tp kr kc : Nat} (n : Nat) (v : Int32) (h1 : 2 ≤ n) (h2 : n ≤ 7) (hv : inA v = true) (hI : Dw G a ar ac (m, er, sk, lg, im, un, tp, kr, kc) w) : OP l G a yX7_ruler wsX7_ruler ({ frames := 20, cells := 0, slots := 0, locals := 1149 } : Room) [.int (nI n), .int v] w (ansR 0 n v) (Dw G a ar ac (m, er, sk, lg, im, un, tp, kr ||| 2 ^ n, kc)) := by
  obtain ⟨m2, er2, sk2, st, be, nx, rfl, hm, hm1, hn, hc, hC, hk60, hkr, hkc⟩ := hI
  have hm : m < 2 ^ 61 := hm
  have hm1 : im.1 < 2 ^ 61 := hm1
  refine ⟨_, ct_fr (c_X7_ruler l G (a 0) (a 4) (a 7) (a 13) (a 15) im.2.2.2 (nI un) (nI tp) (a 10) (a 1) (a 14) ar kr (nI n) v (Nat.lt_trans hkr (by decide))) ([(a 1, .inr (0, [.long (lN m), .ref (a 2), .ref (a 3)])), (a 2, .inl (G.2.1, 61, .inl er)), (a 3, .inl (G.2.1, 61, .inl sk)), (a 4, .inr (0, [.long (lN im.1), .ref (a 5), .ref (a 6)])), (a 5, .inl (G.2.1, 61, .inl im.2.1)), (a 6, .inl (G.2.1, 61, .inl im.2.2.1)), (a 7, .inr (0, [.long (lN m2), .ref (a 8), .ref (a 9)])), (a 8, .inl (G.2.1, 61, .inl er2)), (a 9, .inl (G.2.1, 61, .inl sk2)), (a 10, .inr (2, [.ref (a 11), .ref (a 12), .int (nI nx), .int (nI lg.length)])), (a 11, .inl (G.2.1, 16, .inl st)), (a 12, .inl (G.2.1, 16, .inl be))] ++ sW G (a 15) (a 16) ac 1 21 kc) (p_s0 pc_2), ?_⟩
  rintro r1 w1 ⟨v1, P1, p1⟩
  rcases P1 with ⟨h3, rfl, rfl⟩ | ⟨n2, hn1, hn2, e, -, rfl, rfl⟩
  · rw [inR_r2 h1 h2, hv] at h3
    cases h3
  · obtain rfl : n = n2 := i_eq (by omega) (by omega) e
    exact ⟨rfl, _, p1.symm.trans (p_s0 pc_2), m2, er2, sk2, st, be, nx, rfl, hm, hm1, hn, hc, hC, hk60, kn_lt hkr (by omega), hkc⟩
set_option maxHeartbeats 4000000 in
set_option maxRecDepth 100000 in
theorem op_cover {l : Launch} {G : GG} {a ar ac : Nat → Nat} {w : va_W} {m : Nat} {er sk : Nat → Int32} {lg : List (Nat × Int32)} {im : Nat × (Nat → Int32) × (Nat → Int32) × Int32} {un tp kr kc : Nat} (n : Nat) (v : Int32) (h1 : 1 ≤ n) (h2 : n ≤ 20) (hv : inA v = true) (hI : Dw G a ar ac (m, er, sk, lg, im, un, tp, kr, kc) w) : OP l G a yX7_cover wsX7_cover ({ frames := 20, cells := 0, slots := 0, locals := 1149 } : Room) [.int (nI n), .int v] w (ansR 1 n v) (Dw G a ar ac (m, er, sk, lg, im, un, tp, kr, kc ||| 2 ^ n)) := by
  obtain ⟨m2, er2, sk2, st, be, nx, rfl, hm, hm1, hn, hc, hC, hk60, hkr, hkc⟩ := hI
  have hm : m < 2 ^ 61 := hm
  have hm1 : im.1 < 2 ^ 61 := hm1
  refine ⟨_, ct_fr (c_X7_cover l G (a 0) (a 4) (a 7) (a 13) (a 15) im.2.2.2 (nI un) (nI tp) (a 10) (a 1) (a 16) ac kc (nI n) v (Nat.lt_trans hkc (by decide))) ([(a 1, .inr (0, [.long (lN m), .ref (a 2), .ref (a 3)])), (a 2, .inl (G.2.1, 61, .inl er)), (a 3, .inl (G.2.1, 61, .inl sk)), (a 4, .inr (0, [.long (lN im.1), .ref (a 5), .ref (a 6)])), (a 5, .inl (G.2.1, 61, .inl im.2.1)), (a 6, .inl (G.2.1, 61, .inl im.2.2.1)), (a 7, .inr (0, [.long (lN m2), .ref (a 8), .ref (a 9)])), (a 8, .inl (G.2.1, 61, .inl er2)), (a 9, .inl (G.2.1, 61, .inl sk2)), (a 10, .inr (2, [.ref (a 11), .ref (a 12), .int (nI nx), .int (nI lg.length)])), (a 11, .inl (G.2.1, 16, .inl st)), (a 12, .inl (G.2.1, 16, .inl be))] ++ sW G (a 13) (a 14) ar 0 8 kr) (p_s1 pc_2), ?_⟩
  rintro r1 w1 ⟨v1, P1, p1⟩
  rcases P1 with ⟨h3, rfl, rfl⟩ | ⟨n2, hn1, hn2, e, -, rfl, rfl⟩
  · rw [inR_c2 h1 h2, hv] at h3
    cases h3
  · obtain rfl : n = n2 := i_eq (by omega) (by omega) e
    exact ⟨rfl, _, p1.symm.trans (p_s1 pc_2), m2, er2, sk2, st, be, nx, rfl, hm, hm1, hn, hc, hC, hk60, hkr, kn_lt hkc (by omega)⟩
set_option maxHeartbeats 4000000 in
set_option maxRecDepth 100000 in
theorem op_stand {l : Launch} {G : GG} {a ar ac : Nat → Nat} {w : va_W} {m : Nat} {er sk : Nat → Int32} {lg : List (Nat × Int32)} {im : Nat × (Nat → Int32) × (Nat → Int32) × Int32} {un tp kr kc : Nat} (n b : Nat) (h1 : 1 ≤ n) (h2 : n ≤ 20) (hb : b ≤ 60) (hs : spN (resT 1 n).2.2.2 + b ≤ 60) (hI : Dw G a ar ac (m, er, sk, lg, im, un, tp, kr, kc) w) : OP l G a yX7_stand wsX7_stand ({ frames := 20, cells := 0, slots := 0, locals := 1149 } : Room) [.int 1, .int (nI n), .int (nI b)] w (nI (pcN 64 ((resT 1 n).2.2.2 * 2 ^ b))) (Dw G a ar ac ((resT 1 n).2.2.2 * 2 ^ b, fa_fill (stE ((resT 1 n).2.2.2 * 2 ^ b)) er 61, sk, [], im, un, tp, kr, kc ||| 2 ^ n)) := by
  obtain ⟨m2, er2, sk2, st, be, nx, rfl, hm, hm1, hn, hc, hC, hk60, hkr, hkc⟩ := hI
  have hm : m < 2 ^ 61 := hm
  have hm1 : im.1 < 2 ^ 61 := hm1
  refine ⟨_, ct_fr (c_X7_stand1 l G (a 0) (a 4) (a 7) (a 13) (a 15) im.2.2.2 (nI un) (nI tp) (a 1) (a 2) (a 3) m er sk (a 10) (a 11) (a 12) st be nx lg.length (a 16) ac kc (nI n) (nI b) hm (Nat.lt_trans hkc (by decide))) ([(a 4, .inr (0, [.long (lN im.1), .ref (a 5), .ref (a 6)])), (a 5, .inl (G.2.1, 61, .inl im.2.1)), (a 6, .inl (G.2.1, 61, .inl im.2.2.1)), (a 7, .inr (0, [.long (lN m2), .ref (a 8), .ref (a 9)])), (a 8, .inl (G.2.1, 61, .inl er2)), (a 9, .inl (G.2.1, 61, .inl sk2))] ++ sW G (a 13) (a 14) ar 0 8 kr) (p_s1 pc_0), ?_⟩
  rintro r1 w1 ⟨v1, P1, p1⟩
  rcases P1 with ⟨h3, rfl, rfl⟩ | ⟨n2, b2, hn1, hn2, e, e2, hb2, Q⟩
  · rw [inR_c2 h1 h2, inS_t hb] at h3
    cases h3
  · obtain rfl : n = n2 := i_eq (by omega) (by omega) e
    obtain rfl : b = b2 := i_eq (by omega) (by omega) e2
    rcases Q with ⟨h3, -⟩ | ⟨h3, rfl, rfl⟩
    · omega
    · exact ⟨rfl, _, p1.symm.trans (p_s1 pc_0), m2, er2, sk2, st, be, nx, rfl, resOk_sh (resOk_c n h1 h2) hs, hm1, hn, Nat.zero_le _, trivial, (fun q hq => absurd hq List.not_mem_nil), hkr, kn_lt hkc (by omega)⟩
set_option maxHeartbeats 4000000 in
set_option maxRecDepth 100000 in
theorem op_image0 {l : Launch} {G : GG} {a ar ac : Nat → Nat} {w : va_W} {m : Nat} {er sk : Nat → Int32} {lg : List (Nat × Int32)} {im : Nat × (Nat → Int32) × (Nat → Int32) × Int32} {un tp kr kc : Nat}   (hI : Dw G a ar ac (m, er, sk, lg, im, un, tp, kr, kc) w) : OP l G a yX7_image wsX7_image ({ frames := 2, cells := 0, slots := 0, locals := 81 } : Room) [.int 0] w (1) (Dw G a ar ac (m, er, sk, lg, (m, er, sk, im.2.2.2 ||| 1), un, tp, kr, kc)) := by
  obtain ⟨m2, er2, sk2, st, be, nx, rfl, hm, hm1, hn, hc, hC, hk60, hkr, hkc⟩ := hI
  have hm : m < 2 ^ 61 := hm
  have hm1 : im.1 < 2 ^ 61 := hm1
  refine ⟨_, ct_fr (c_X7_image0 l G (a 0) (a 4) (a 7) (a 13) (a 15) im.2.2.2 (nI un) (nI tp) (a 10) (a 1) (a 2) (a 3) m er sk (a 5) (a 6) im.1 im.2.1 im.2.2.1) ([(a 7, .inr (0, [.long (lN m2), .ref (a 8), .ref (a 9)])), (a 8, .inl (G.2.1, 61, .inl er2)), (a 9, .inl (G.2.1, 61, .inl sk2)), (a 10, .inr (2, [.ref (a 11), .ref (a 12), .int (nI nx), .int (nI lg.length)])), (a 11, .inl (G.2.1, 16, .inl st)), (a 12, .inl (G.2.1, 16, .inl be))] ++ (sW G (a 13) (a 14) ar 0 8 kr ++ sW G (a 15) (a 16) ac 1 21 kc)) (p_tl pc_3), ?_⟩
  rintro r1 w1 ⟨v1, ⟨rfl, rfl⟩, p1⟩
  exact ⟨rfl, _, p1.symm.trans (p_tl pc_3), m2, er2, sk2, st, be, nx, rfl, hm, hm, hn, hc, hC, hk60, hkr, hkc⟩
set_option maxHeartbeats 4000000 in
set_option maxRecDepth 100000 in
theorem op_restore0 {l : Launch} {G : GG} {a ar ac : Nat → Nat} {w : va_W} {m : Nat} {er sk : Nat → Int32} {lg : List (Nat × Int32)} {im : Nat × (Nat → Int32) × (Nat → Int32) × Int32} {un tp kr kc : Nat}  (hik : ¬ im.2.2.2 &&& 1 = 0) (hI : Dw G a ar ac (m, er, sk, lg, im, un, tp, kr, kc) w) : OP l G a yX7_restore wsX7_restore ({ frames := 2, cells := 0, slots := 0, locals := 81 } : Room) [.int 0] w (1) (Dw G a ar ac (im.1, im.2.1, im.2.2.1, [], im, un, tp, kr, kc)) := by
  obtain ⟨m2, er2, sk2, st, be, nx, rfl, hm, hm1, hn, hc, hC, hk60, hkr, hkc⟩ := hI
  have hm : m < 2 ^ 61 := hm
  have hm1 : im.1 < 2 ^ 61 := hm1
  refine ⟨_, ct_fr (c_X7_restore0 l G (a 0) (a 4) (a 7) (a 13) (a 15) im.2.2.2 (nI un) (nI tp) (a 1) (a 2) (a 3) m er sk (a 10) (a 11) (a 12) st be nx lg.length (a 5) (a 6) im.1 im.2.1 im.2.2.1) ([(a 7, .inr (0, [.long (lN m2), .ref (a 8), .ref (a 9)])), (a 8, .inl (G.2.1, 61, .inl er2)), (a 9, .inl (G.2.1, 61, .inl sk2))] ++ (sW G (a 13) (a 14) ar 0 8 kr ++ sW G (a 15) (a 16) ac 1 21 kc)) (p_tl pc_5), ?_⟩
  rintro r1 w1 ⟨v1, P1, p1⟩
  rcases P1 with ⟨h1, -⟩ | ⟨-, rfl, rfl⟩
  · exact absurd h1 hik
  · exact ⟨rfl, _, p1.symm.trans (p_tl pc_5), m2, er2, sk2, st, be, nx, rfl, hm1, hm1, hn, Nat.zero_le _, trivial, (fun q hq => absurd hq List.not_mem_nil), hkr, hkc⟩
