/-! Numbers by digits of 256, and how many bits are set. -/
def ofD : List Nat → Nat
  | [] => 0
  | d :: ds => d + 256 * ofD ds
def toD : Nat → Nat → List Nat
  | 0, _ => []
  | k + 1, n => n % 256 :: toD k (n / 256)
theorem ofD_toD : ∀ (k n : Nat), n < 256 ^ k → ofD (toD k n) = n
  | 0, n, h => by simp at h; simp [toD, ofD, h]
  | k + 1, n, h => by
    have h1 : n / 256 < 256 ^ k := by rw [Nat.div_lt_iff_lt_mul (by decide)]; rw [Nat.pow_succ] at h; exact h
    show n % 256 + 256 * ofD (toD k (n / 256)) = n
    rw [ofD_toD k _ h1]
    omega
theorem toD_lt : ∀ (k n : Nat), ∀ d ∈ toD k n, d < 256
  | 0, _, d, h => by cases h
  | k + 1, n, d, h => by
    rcases List.mem_cons.mp h with h | h
    · rw [h]; exact Nat.mod_lt _ (by decide)
    · exact toD_lt k _ d h
theorem toD_len : ∀ (k n : Nat), (toD k n).length = k
  | 0, _ => rfl
  | k + 1, n => by simp [toD, toD_len k]
theorem land_dig {d m X M : Nat} (hd : d < 256) (hm : m < 256) : (d + 256 * X) &&& (m + 256 * M) = (d &&& m) + 256 * (X &&& M) := by
  have h1 : ((d + 256 * X) &&& (m + 256 * M)) % 2 ^ 8 = d &&& m := by
    rw [Nat.and_mod_two_pow, show (d + 256 * X) % 2 ^ 8 = d by omega, show (m + 256 * M) % 2 ^ 8 = m by omega]
  have h2 : ((d + 256 * X) &&& (m + 256 * M)) / 2 ^ 8 = X &&& M := by
    rw [Nat.and_div_two_pow, show (d + 256 * X) / 2 ^ 8 = X by omega, show (m + 256 * M) / 2 ^ 8 = M by omega]
  omega
def pt1 (d : Nat) : Nat := d - ((d / 2) &&& 85)
def pt2 (d : Nat) : Nat := (d &&& 51) + ((d / 4) &&& 51)
def pt3 (d : Nat) : Nat := d % 16 + d / 16
theorem pk1 : ∀ d, d < 256 → ∀ b, b < 2 → (d / 2 + 128 * b) &&& 85 = (d / 2) &&& 85 := by decide +kernel
theorem pk2 : ∀ d, d < 256 → ∀ b, b < 4 → (d / 4 + 64 * b) &&& 51 = (d / 4) &&& 51 := by decide +kernel
theorem pk2lt : ∀ d, d < 256 → pt1 d < 256 ∧ pt2 (pt1 d) < 256 ∧ pt2 (pt1 d) % 16 ≤ 4 ∧ pt2 (pt1 d) / 16 ≤ 4 ∧ pt3 (pt2 (pt1 d)) = fb_ct (fun k => d.testBit k) 8 ∧ pt3 (pt2 (pt1 d)) ≤ 8 := by decide +kernel
theorem pk15 : ∀ d, d < 256 → d &&& 15 = d % 16 := by decide +kernel
def repD (k m : Nat) : Nat := ofD (List.replicate k m)
theorem ps1 : ∀ ds : List Nat, (∀ d ∈ ds, d < 256) → ofD ds - ((ofD ds / 2) &&& repD ds.length 85) = ofD (ds.map pt1) ∧ ((ofD ds / 2) &&& repD ds.length 85) ≤ ofD ds
  | [], _ => ⟨rfl, by simp [ofD, repD]⟩
  | d :: ds, h => by
    obtain ⟨i1, i2⟩ := ps1 ds (fun x hx => h x (List.mem_cons_of_mem _ hx))
    have hd := h d List.mem_cons_self
    have e0 : repD (d :: ds).length 85 = 85 + 256 * repD ds.length 85 := rfl
    have e1 : ofD (d :: ds) = d + 256 * ofD ds := rfl
    have e2 : (d + 256 * ofD ds) / 2 = (d / 2 + 128 * (ofD ds % 2)) + 256 * (ofD ds / 2) := by omega
    have e3 := pk1 d hd (ofD ds % 2) (Nat.mod_lt _ (by decide))
    have e4 : (d / 2) &&& 85 ≤ d := Nat.le_trans Nat.and_le_left (Nat.div_le_self _ _)
    rw [e0, e1, e2, land_dig (by omega) (by decide), e3]
    refine ⟨?_, by omega⟩
    show _ = pt1 d + 256 * ofD (ds.map pt1)
    rw [← i1]
    unfold pt1
    omega
theorem ps2 : ∀ ds : List Nat, (∀ d ∈ ds, d < 256) → (ofD ds &&& repD ds.length 51) + ((ofD ds / 4) &&& repD ds.length 51) = ofD (ds.map pt2)
  | [], _ => rfl
  | d :: ds, h => by
    have i1 := ps2 ds (fun x hx => h x (List.mem_cons_of_mem _ hx))
    have hd := h d List.mem_cons_self
    have e0 : repD (d :: ds).length 51 = 51 + 256 * repD ds.length 51 := rfl
    have e1 : ofD (d :: ds) = d + 256 * ofD ds := rfl
    have e2 : (d + 256 * ofD ds) / 4 = (d / 4 + 64 * (ofD ds % 4)) + 256 * (ofD ds / 4) := by omega
    have e3 := pk2 d hd (ofD ds % 4) (Nat.mod_lt _ (by decide))
    rw [e0, e1, e2, land_dig (by omega) (by decide), land_dig (by omega) (by decide), e3]
    show _ = pt2 d + 256 * ofD (ds.map pt2)
    rw [← i1]
    unfold pt2
    omega
theorem ps3 : ∀ ds : List Nat, (∀ d ∈ ds, d < 256 ∧ d % 16 ≤ 4 ∧ d / 16 ≤ 4) → ((ofD ds + ofD ds / 16) &&& repD ds.length 15) = ofD (ds.map pt3)
  | [], _ => rfl
  | d :: ds, h => by
    have i1 := ps3 ds (fun x hx => h x (List.mem_cons_of_mem _ hx))
    obtain ⟨hd, hd1, hd2⟩ := h d List.mem_cons_self
    have hX : ofD ds % 16 ≤ 4 := by
      cases ds with
      | nil => simp [ofD]
      | cons x xs =>
        have := (h x (List.mem_cons_of_mem _ List.mem_cons_self)).2.1
        show (x + 256 * ofD xs) % 16 ≤ 4
        omega
    have e0 : repD (d :: ds).length 15 = 15 + 256 * repD ds.length 15 := rfl
    have e1 : ofD (d :: ds) = d + 256 * ofD ds := rfl
    have e2 : d + 256 * ofD ds + (d + 256 * ofD ds) / 16 = (d + d / 16 + 16 * (ofD ds % 16)) + 256 * (ofD ds + ofD ds / 16) := by omega
    rw [e0, e1, e2, land_dig (by omega) (by decide), i1, pk15 _ (by omega)]
    show _ = pt3 d + 256 * ofD (ds.map pt3)
    unfold pt3
    omega
theorem ct_dig {d : Nat} (X j : Nat) (hd : d < 256) : fb_ct (fun k => (d + 256 * X).testBit k) (8 + j) = fb_ct (fun k => d.testBit k) 8 + fb_ct (fun k => X.testBit k) j := by
  have e : ∀ k, (d + 256 * X).testBit k = if k < 8 then d.testBit k else X.testBit (k - 8) := fun k => by
    rw [show d + 256 * X = 2 ^ 8 * X + d by omega]
    exact Nat.testBit_two_pow_mul_add X hd k
  rw [fb_ct_split]
  congr 1
  · exact fb_ct_cong (fun k hk => by rw [e, if_pos hk])
  · exact fb_ct_cong (fun k hk => by rw [e, if_neg (by omega), Nat.add_sub_cancel_left])
/-- how many bits are set, of the first n -/
def pcN (n m : Nat) : Nat := fb_ct (fun k => m.testBit k) n
def sumL : List Nat → Nat
  | [] => 0
  | d :: ds => d + sumL ds
theorem pc_dig : ∀ ds : List Nat, (∀ d ∈ ds, d < 256) → pcN (8 * ds.length) (ofD ds) = sumL (ds.map (fun d => pt3 (pt2 (pt1 d))))
  | [], _ => rfl
  | d :: ds, h => by
    have hd := h d List.mem_cons_self
    have i1 := pc_dig ds (fun x hx => h x (List.mem_cons_of_mem _ hx))
    show fb_ct (fun k => (d + 256 * ofD ds).testBit k) (8 * (ds.length + 1)) = pt3 (pt2 (pt1 d)) + sumL (ds.map (fun d => pt3 (pt2 (pt1 d))))
    rw [show 8 * (ds.length + 1) = 8 + 8 * ds.length by omega, ct_dig _ _ hd, ← i1, (pk2lt d hd).2.2.2.2.1]
    rfl
theorem pc_64 {n : Nat} (hn : n < 2 ^ 64) : ∃ c0 c1 c2 c3 c4 c5 c6 c7 : Nat, c0 ≤ 8 ∧ c1 ≤ 8 ∧ c2 ≤ 8 ∧ c3 ≤ 8 ∧ c4 ≤ 8 ∧ c5 ≤ 8 ∧ c6 ≤ 8 ∧ c7 ≤ 8 ∧ pcN 64 n = c0 + c1 + c2 + c3 + c4 + c5 + c6 + c7 ∧
    (n / 2 &&& 6148914691236517205) ≤ n ∧ (∀ a b, a = n - (n / 2 &&& 6148914691236517205) → b = (a &&& 3689348814741910323) + (a / 4 &&& 3689348814741910323) → a < 2 ^ 64 ∧ b < 2 ^ 63 ∧ ((b + b / 16) &&& 1085102592571150095) = c0 + 256 * (c1 + 256 * (c2 + 256 * (c3 + 256 * (c4 + 256 * (c5 + 256 * (c6 + 256 * c7))))))) := by
  have hD := toD_lt 8 n
  have hL := toD_len 8 n
  have hE := ofD_toD 8 n (by exact Nat.lt_of_lt_of_le hn (by decide))
  generalize toD 8 n = ds at hD hL hE
  match ds, hL with
  | [d0, d1, d2, d3, d4, d5, d6, d7], _ =>
    have q := fun d (h : d ∈ [d0, d1, d2, d3, d4, d5, d6, d7]) => pk2lt d (hD d h)
    have q0 := q d0 (by simp); have q1 := q d1 (by simp); have q2 := q d2 (by simp); have q3 := q d3 (by simp)
    have q4 := q d4 (by simp); have q5 := q d5 (by simp); have q6 := q d6 (by simp); have q7 := q d7 (by simp)
    refine ⟨_, _, _, _, _, _, _, _, q0.2.2.2.2.2, q1.2.2.2.2.2, q2.2.2.2.2.2, q3.2.2.2.2.2, q4.2.2.2.2.2, q5.2.2.2.2.2, q6.2.2.2.2.2, q7.2.2.2.2.2, ?_, ?_, ?_⟩
    · have h := pc_dig _ hD
      rw [hE] at h
      rw [show (64 : Nat) = 8 * [d0, d1, d2, d3, d4, d5, d6, d7].length from rfl, h]
      simp only [List.map, sumL]
      omega
    · have h := (ps1 _ hD).2
      rw [hE] at h
      exact h
    · intro a b ha hb
      have h1 := (ps1 _ hD).1
      rw [hE] at h1
      have e5 : repD [d0, d1, d2, d3, d4, d5, d6, d7].length 85 = 6148914691236517205 := rfl
      rw [e5, ← ha] at h1
      have h1b : ∀ d ∈ [d0, d1, d2, d3, d4, d5, d6, d7].map pt1, d < 256 := fun d hd => by
        obtain ⟨z, hz, rfl⟩ := List.mem_map.mp hd
        exact (q z hz).1
      have h2 := ps2 _ h1b
      rw [← h1] at h2
      have e6 : repD ([d0, d1, d2, d3, d4, d5, d6, d7].map pt1).length 51 = 3689348814741910323 := rfl
      rw [e6, ← hb] at h2
      have h2b : ∀ d ∈ ([d0, d1, d2, d3, d4, d5, d6, d7].map pt1).map pt2, d < 256 ∧ d % 16 ≤ 4 ∧ d / 16 ≤ 4 := fun d hd => by
        obtain ⟨z, hz, rfl⟩ := List.mem_map.mp hd
        obtain ⟨y, hy, rfl⟩ := List.mem_map.mp hz
        exact ⟨(q y hy).2.1, (q y hy).2.2.1, (q y hy).2.2.2.1⟩
      have h3 := ps3 _ h2b
      rw [← h2] at h3
      have e7 : repD (([d0, d1, d2, d3, d4, d5, d6, d7].map pt1).map pt2).length 15 = 1085102592571150095 := rfl
      rw [e7] at h3
      refine ⟨by omega, ?_, ?_⟩
      · have hb0 : b = ofD [pt2 (pt1 d0), pt2 (pt1 d1), pt2 (pt1 d2), pt2 (pt1 d3), pt2 (pt1 d4), pt2 (pt1 d5), pt2 (pt1 d6), pt2 (pt1 d7)] := h2
        simp only [ofD] at hb0
        have z0 := q0.2.1; have z1 := q1.2.1; have z2 := q2.2.1; have z3 := q3.2.1; have z4 := q4.2.1; have z5 := q5.2.1; have z6 := q6.2.1; have z7 := q7.2.2.1; have z8 := q7.2.2.2.1
        omega
      · rw [h3]
        simp only [List.map, ofD, Nat.mul_zero, Nat.add_zero]
theorem pcA {c0 Y c : Nat} (h : c = c0 + 256 * Y) (h0 : c0 ≤ 8) : c / 256 = Y := by omega
theorem pcB {s0 s1 Z d : Nat} (h : d = s0 + 256 * (s1 + 256 * Z)) (h0 : s0 ≤ 255) (h1 : s1 ≤ 255) : d / 65536 = Z := by omega
theorem pcC {s0 s1 s2 s3 Z e : Nat} (h : e = s0 + 256 * (s1 + 256 * (s2 + 256 * (s3 + 256 * Z)))) (h0 : s0 ≤ 255) (h1 : s1 ≤ 255) (h2 : s2 ≤ 255) (h3 : s3 ≤ 255) : e / 4294967296 = Z := by omega
theorem pcY {c y Y B : Nat} (h : Y = c + 256 * y) (hc : c ≤ 8) (hy : y ≤ B) : Y ≤ 8 + 256 * B := by omega
theorem pc_fold {c0 c1 c2 c3 c4 c5 c6 c7 c d e f : Nat} (h0 : c0 ≤ 8) (h1 : c1 ≤ 8) (h2 : c2 ≤ 8) (h3 : c3 ≤ 8) (h4 : c4 ≤ 8) (h5 : c5 ≤ 8) (h6 : c6 ≤ 8) (h7 : c7 ≤ 8) (hc : c = c0 + 256 * (c1 + 256 * (c2 + 256 * (c3 + 256 * (c4 + 256 * (c5 + 256 * (c6 + 256 * c7)))))))
    (hd : d = c + c / 256) (he : e = d + d / 65536) (hf : f = e + e / 4294967296) : c < 2 ^ 61 ∧ d < 2 ^ 62 ∧ e < 2 ^ 63 ∧ f % 128 = c0 + c1 + c2 + c3 + c4 + c5 + c6 + c7 := by
  obtain ⟨Y6, e6⟩ : ∃ Y, Y = c6 + 256 * c7 := ⟨_, rfl⟩
  obtain ⟨Y5, e5⟩ : ∃ Y, Y = c5 + 256 * Y6 := ⟨_, rfl⟩
  obtain ⟨Y4, e4⟩ : ∃ Y, Y = c4 + 256 * Y5 := ⟨_, rfl⟩
  obtain ⟨Y3, e3⟩ : ∃ Y, Y = c3 + 256 * Y4 := ⟨_, rfl⟩
  obtain ⟨Y2, e2⟩ : ∃ Y, Y = c2 + 256 * Y3 := ⟨_, rfl⟩
  obtain ⟨Y1, e1⟩ : ∃ Y, Y = c1 + 256 * Y2 := ⟨_, rfl⟩
  rw [← e6, ← e5, ← e4, ← e3, ← e2, ← e1] at hc
  have b6 := pcY e6 h6 h7
  have b5 := pcY e5 h5 b6
  have b4 := pcY e4 h4 b5
  have b3 := pcY e3 h3 b4
  have b2 := pcY e2 h2 b3
  have b1 := pcY e1 h1 b2
  have b0 := pcY hc h0 b1
  have b0 : c < 2 ^ 61 := Nat.lt_of_le_of_lt b0 (by decide)
  clear b1 b2 b3 b4 b5 b6
  rw [pcA hc h0] at hd
  have hd2 : d = (c0 + c1) + 256 * ((c1 + c2) + 256 * (Y2 + Y3)) := by rw [hd, hc]; clear hd hc he hf b0; rw [e1, e2]; clear e1 e2 e3 e4 e5 e6; omega
  have hY : Y1 ≤ c := by clear hd hd2 he hf e1 e2 e3 e4 e5 e6; omega
  have bd : d < 2 ^ 62 := by clear hd2 he hf hc e1 e2 e3 e4 e5 e6; omega
  rw [pcB hd2 (by clear hd hd2 he hf hc e1 e2 e3 e4 e5 e6; omega) (by clear hd hd2 he hf hc e1 e2 e3 e4 e5 e6; omega)] at he
  have hz : Y2 + Y3 ≤ d := by clear hd he hf hc e1 e2 e3 e4 e5 e6; omega
  have be : e < 2 ^ 63 := by clear hd hd2 hf hc e1 e2 e3 e4 e5 e6; omega
  have f2 : Y2 + Y3 = (c2 + c3) + 256 * ((c3 + c4) + 256 * (Y4 + Y5)) := by rw [e2, e3, e4]; clear hd hd2 he hf hc e1 e2 e3 e4 e5 e6 be bd hz; omega
  have f4 : Y4 + Y5 = (c4 + c5) + 256 * ((c5 + c6) + 256 * (Y6 + c7)) := by rw [e4, e5, e6]; clear hd hd2 he hf hc e1 e2 e3 e4 e5 e6 be bd hz f2; omega
  have he2 : e = (c0 + c1 + c2 + c3) + 256 * ((c1 + c2 + c3 + c4) + 256 * ((c2 + c3 + c4 + c5) + 256 * ((c3 + c4 + c5 + c6) + 256 * (Y4 + Y5 + (Y6 + c7))))) := by
    rw [he, hd2, f2]
    clear hd hd2 he hf hc e1 e2 e3 e5 e6 be bd hz f2 e4
    omega
  rw [pcC he2 (by clear hd hd2 he hf hc e1 e2 e3 e4 e5 e6 f2 f4 he2; omega) (by clear hd hd2 he hf hc e1 e2 e3 e4 e5 e6 f2 f4 he2; omega) (by clear hd hd2 he hf hc e1 e2 e3 e4 e5 e6 f2 f4 he2; omega) (by clear hd hd2 he hf hc e1 e2 e3 e4 e5 e6 f2 f4 he2; omega)] at hf
  refine ⟨b0, bd, be, ?_⟩
  rw [hf, he2, e6]
  clear hd hd2 he hf hc e1 e2 e3 e5 be bd hz f2 he2 hY b0
  rw [f4, e6]
  clear f4 e4 e6
  omega
