set_option maxHeartbeats 4000000 in
set_option maxRecDepth 100000 in
theorem c_X6_count (l : Launch) (G : GG) (s0 : Nat) (r0 : Nat) (kd : Int32) (kn : Nat) (tt : Int32) (hkn : kn < 2 ^ 32) : CT l G yX6_count wsX6_count ({ frames := 1, cells := 0, slots := 0, locals := 20 } : Room) [.ref s0] [(s0, .inr (3, [.int kd, .ref r0, .int (nI kn), .int tt]))] (fun r w => r = some (.int (nI (pcN 32 kn))) ∧ w = [(s0, .inr (3, [.int kd, .ref r0, .int (nI kn), .int tt]))]) 0 0 := by
  refine ct_i (cc := cX6_count) (maxL := 1) (by decide +kernel) rfl (Nat.le_of_ble_eq_true rfl) ?_
  intro p e s mt below meth c A Q X hw hret ls hl
  obtain ⟨hx, hb, -⟩ := id X
  have hl : lv_has ls 1 [(0, .ref s0)] := hl
  refine lv_aload_n hx hb dX6_count_0 rfl (lv_at hl 0 rfl) ?_
  refine xg X hw (C := RX6) (T := TX6) (N := 4) (by decide +kernel) 0 rfl rfl 2 (by decide) rfl (by decide +kernel) rfl dX6_count_1 ?_
  refine xcP (n := 1) (As := [.int (nI kn)]) (rest := []) X hw (c_J6_bitCount_0f7a4 l G kn hkn) gX6_count_J6_bitCount_0f7a4 rfl ⟨rfl, rfl⟩ (by decide +kernel) ⟨by decide, by decide⟩ rfl hl.1 rfl (Nat.le_of_ble_eq_true rfl) dX6_count_4 ⟨by decide, by decide⟩ (fun r w1 H locs hp hw => ?_)
  obtain rfl := hp
  refine W.eq (g2 := F0 mt 7 ls [.int (nI (pcN 32 kn))]) rfl ?_
  refine hret _ _ _ _ _ _ dX6_count_7 hw ?_
  exact ⟨rfl, rfl⟩

set_option maxHeartbeats 4000000 in
set_option maxRecDepth 100000 in
theorem c_X6_knownBits (l : Launch) (G : GG) (s0 : Nat) (r0 : Nat) (kd : Int32) (kn : Nat) (tt : Int32)  : CT l G yX6_knownBits wsX6_knownBits ({ frames := 0, cells := 0, slots := 0, locals := 0 } : Room) [.ref s0] [(s0, .inr (3, [.int kd, .ref r0, .int (nI kn), .int tt]))] (fun r w => r = some (.int (nI kn)) ∧ w = [(s0, .inr (3, [.int kd, .ref r0, .int (nI kn), .int tt]))]) 0 0 := by
  refine ct_i (cc := cX6_knownBits) (maxL := 1) (by decide +kernel) rfl (Nat.le_of_ble_eq_true rfl) ?_
  intro p e s mt below meth c A Q X hw hret ls hl
  obtain ⟨hx, hb, -⟩ := id X
  have hl : lv_has ls 1 [(0, .ref s0)] := hl
  refine lv_aload_n hx hb dX6_knownBits_0 rfl (lv_at hl 0 rfl) ?_
  refine xg X hw (C := RX6) (T := TX6) (N := 4) (by decide +kernel) 0 rfl rfl 2 (by decide) rfl (by decide +kernel) rfl dX6_knownBits_1 ?_
  refine hret _ _ _ _ _ _ dX6_knownBits_4 hw ?_
  exact ⟨rfl, rfl⟩

set_option maxHeartbeats 4000000 in
set_option maxRecDepth 100000 in
theorem c_X6_triesInAll (l : Launch) (G : GG) (s0 : Nat) (r0 : Nat) (kd : Int32) (kn : Nat) (tt : Int32)  : CT l G yX6_triesInAll wsX6_triesInAll ({ frames := 0, cells := 0, slots := 0, locals := 0 } : Room) [.ref s0] [(s0, .inr (3, [.int kd, .ref r0, .int (nI kn), .int tt]))] (fun r w => r = some (.int tt) ∧ w = [(s0, .inr (3, [.int kd, .ref r0, .int (nI kn), .int tt]))]) 0 0 := by
  refine ct_i (cc := cX6_triesInAll) (maxL := 1) (by decide +kernel) rfl (Nat.le_of_ble_eq_true rfl) ?_
  intro p e s mt below meth c A Q X hw hret ls hl
  obtain ⟨hx, hb, -⟩ := id X
  have hl : lv_has ls 1 [(0, .ref s0)] := hl
  refine lv_aload_n hx hb dX6_triesInAll_0 rfl (lv_at hl 0 rfl) ?_
  refine xg X hw (C := RX6) (T := TX6) (N := 4) (by decide +kernel) 0 rfl rfl 3 (by decide) rfl (by decide +kernel) rfl dX6_triesInAll_1 ?_
  refine hret _ _ _ _ _ _ dX6_triesInAll_4 hw ?_
  exact ⟨rfl, rfl⟩

set_option maxHeartbeats 4000000 in
set_option maxRecDepth 100000 in
theorem c_X6_found (l : Launch) (G : GG) (s0 : Nat) (r0 : Nat) (ad : Nat → Nat) (kd : Nat) (N : Nat) (kn : Nat) (n : Nat) (hkn : kn < 2 ^ 31) (hnN : n < N) (hN : N ≤ 21) (hkd : (kd = 0 ∧ 2 ≤ n ∧ n ≤ 7) ∨ (kd = 1 ∧ 1 ≤ n ∧ n ≤ 20)) : CT l G yX6_found wsX6_found ({ frames := 19, cells := 0, slots := 0, locals := 1126 } : Room) [.ref s0, .int (nI n)] (sW G s0 r0 ad kd N kn) (fun r w => r = some (.ref (ad n)) ∧ w = sW G s0 r0 ad kd N (kn ||| 2 ^ n)) 0 0 := by
  refine ct_a (cc := cX6_found) (maxL := 4) (by decide +kernel) rfl (Nat.le_of_ble_eq_true rfl) ?_
  intro p e s mt below meth c A Q X hw hret ls hl
  obtain ⟨hx, hb, -⟩ := id X
  have hl : lv_has ls 4 [(0, .ref s0), (1, .int (nI n))] := hl
  obtain ⟨L1, L2, hsp⟩ := fs_split ad (fsOf kd kn) n N hnN
  have hfull := hw
  unfold sW at hw
  rw [hsp _ (fun _ _ => rfl)] at hw
  have hw := sr_open hw
  unfold fC at hw
  obtain ⟨⟨z1, z2, z3, z4⟩, hfs⟩ : ∃ z, fsOf kd kn n = z := ⟨_, rfl⟩
  rw [hfs] at hw
  dsimp only at hw
  refine lv_iconst (v := 0) hx hb dX6_found_0 (by decide) ?_
  refine x_cvi (y := nI 0) (by rfl) ?_
  refine lv_iload_n hx hb dX6_found_1 rfl (lv_at hl 1 rfl) ?_
  refine lv_aload_n hx hb dX6_found_2 rfl (lv_at hl 0 rfl) ?_
  refine xg X hw (C := RX6) (T := TX6) (N := 4) (by decide +kernel) 0 rfl rfl 1 (by decide) rfl (by decide +kernel) rfl dX6_found_3 ?_
  refine xlen X hw 1 2 rfl rfl (v := nI N) (by rfl) dX6_found_6 ?_
  refine lv_iconst (v := 1) hx hb dX6_found_7 (by decide) ?_
  refine lv_isub hx hb dX6_found_8 ?_
  refine x_cvi (y := nI (N - 1)) (by exact pk_sub (b := 1) (by omega)) ?_
  refine va_mmin hx hb (by rw [X.2.2.1]; exact hl.1.symm) X.2.2.2.1 (X.2.2.2.2.1 _ (by decide +kernel : Cond.methodLink RX6 24 Lib.Math.min.name ∈ wsX6_found)) (X.2.2.2.2.1 _ (by decide +kernel : Cond.static Lib.Math.min.name ∈ wsX6_found)) (X.2.2.2.2.1 _ (by decide +kernel : Cond.initialized "java/lang/Math" ∈ wsX6_found)) (X.2.2.2.2.1 _ (by decide +kernel : Cond.code Lib.Math.min.name Lib.Math.min.code 2 (some .int) ∈ wsX6_found)) (by first | decide | (simp [Value.category]; done)) (by first | decide | (simp [Value.category]; done)) (by first | decide | (simp [Value.category]; done)) (by first | decide | (simp [Value.category]; done)) dX6_found_9 ?_
  refine x_cvi (y := nI n) (by rw [i_min (by omega) (by omega), Nat.min_eq_left (by omega)]) ?_
  refine va_mmax hx hb (by rw [X.2.2.1]; exact hl.1.symm) X.2.2.2.1 (X.2.2.2.2.1 _ (by decide +kernel : Cond.methodLink RX6 30 Lib.Math.max.name ∈ wsX6_found)) (X.2.2.2.2.1 _ (by decide +kernel : Cond.static Lib.Math.max.name ∈ wsX6_found)) (X.2.2.2.2.1 _ (by decide +kernel : Cond.initialized "java/lang/Math" ∈ wsX6_found)) (X.2.2.2.2.1 _ (by decide +kernel : Cond.code Lib.Math.max.name Lib.Math.max.code 2 (some .int) ∈ wsX6_found)) (by first | decide | (simp [Value.category]; done)) (by first | decide | (simp [Value.category]; done)) (by first | decide | (simp [Value.category]; done)) (by first | decide | (simp [Value.category]; done)) dX6_found_12 ?_
  refine x_cvi (y := nI n) (by rw [i_max (by decide) (by omega), Nat.max_eq_right (by omega)]) ?_
  refine lv_istore_n (lv' := [(2, .int (nI n)), (0, .ref s0), (1, .int (nI n))]) hx hb dX6_found_15 rfl hl (by decide) rfl (fun ls hl => ?_)
  refine lv_aload_n hx hb dX6_found_16 rfl (lv_at hl 1 rfl) ?_
  refine xg X hw (C := RX6) (T := TX6) (N := 4) (by decide +kernel) 0 rfl rfl 1 (by decide) rfl (by decide +kernel) rfl dX6_found_17 ?_
  refine lv_iload_n hx hb dX6_found_20 rfl (lv_at hl 0 rfl) ?_
  refine xqa X hw 1 rfl (j := n) (rfl) (hnN) (by omega) (r := ad n) (rfl) dX6_found_21 ?_
  refine lv_astore_n (lv' := [(3, .ref (ad n)), (2, .int (nI n)), (0, .ref s0), (1, .int (nI n))]) hx hb dX6_found_22 rfl hl (by decide) rfl (fun ls hl => ?_)
  refine lv_aload_n hx hb dX6_found_23 rfl (lv_at hl 2 rfl) ?_
  refine xg X hw (C := RX6) (T := TX6) (N := 4) (by decide +kernel) 0 rfl rfl 2 (by decide) rfl (by decide +kernel) rfl dX6_found_24 ?_
  refine lv_iconst (v := 1) hx hb dX6_found_27 (by decide) ?_
  refine lv_iload_n hx hb dX6_found_28 rfl (lv_at hl 1 rfl) ?_
  refine lv_ishl hx hb dX6_found_29 ?_
  refine x_cvi (y := nI (2 ^ n)) (by exact shl1 (by omega)) ?_
  refine lv_iand hx hb dX6_found_30 ?_
  refine x_cvi (y := nI (kn &&& 2 ^ n)) (by exact fa_and _ _) ?_
  refine lv_if_ne (tgt := 77) hx hb dX6_found_31 (by decide) (fun c31 => ?_) (fun c31 => ?_)
  · have hbt : kn.testBit n = true := by cases hq : kn.testBit n with
      | true => rfl
      | false => exact absurd ((kn_bit hkn).mpr hq) c31
    refine lv_aload_n hx hb dX6_found_77 rfl (lv_at hl 0 rfl) ?_
    have hw : WS G A s.heap s.heap [] (sW G s0 r0 ad kd N (kn ||| 2 ^ n)) := by rw [or_known hbt]; exact hfull
    refine hret _ _ _ _ _ _ dX6_found_78 hw ?_
    exact ⟨rfl, rfl⟩
  · have hbt : kn.testBit n = false := (kn_bit hkn).mp c31
    have hz := hfs.symm.trans (fsOf_un hbt)
    obtain ⟨rfl, rfl, rfl, rfl⟩ : z1 = 0 ∧ z2 = 0 ∧ z3 = 0 ∧ z4 = 0 := by simpa using hz
    refine lv_aload_n hx hb dX6_found_34 rfl (lv_at hl 2 rfl) ?_
    refine xg X hw (C := RX6) (T := TX6) (N := 4) (by decide +kernel) 0 rfl rfl 0 (by decide) rfl (by decide +kernel) rfl dX6_found_35 ?_
    refine lv_if_ne (tgt := 48) hx hb dX6_found_38 (by decide) (fun c38 => ?_) (fun c38 => ?_)
    · have hkd0 : kd = 1 := by rcases hkd with h | h; (· exact absurd (by rw [h.1]; rfl) c38); exact h.1
      refine lv_aload_n hx hb dX6_found_48 rfl (lv_at hl 0 rfl) ?_
      refine xcST (X0 := [(s0, .inr (3, [.int (nI kd), .ref r0, .int (nI kn), .int (nI (ttOf kd kn N))])), (r0, .inl (G.2.2.2, N, .inr (.inr (.inr (.inr (fun i => some (ad i))))))), (ad n, .inr (1, [.int (nI n), .int (nI 0), .int (nI 0), .int (nI 0), .long (lN 0)]))]) (pl := (L2 ++ L1)) (n := 1) (As := [.ref (ad n)]) (rest := []) (wc := [(ad n, .inr (1, [.int (nI n), .int (nI 0), .int (nI 0), .int (nI 0), .long (lN 0)]))]) (wr := [(s0, .inr (3, [.int (nI kd), .ref r0, .int (nI kn), .int (nI (ttOf kd kn N))])), (r0, .inl (G.2.2.2, N, .inr (.inr (.inr (.inr (fun i => some (ad i)))))))]) X hw (c_X0_run l G (ad n) n 0 0 0 0 ([]) (by omega) (by omega)) gX6_found_X0_run rfl ⟨rfl, rfl⟩ (by decide +kernel) ⟨by decide, by decide⟩ rfl hl.1 rfl (Nat.le_of_ble_eq_true rfl) dX6_found_49 ⟨by decide, by decide⟩ [2] [0, 1] rfl rfl rfl rfl (by decide) (fun r w1 H locs hp hw => ?_)
      obtain ⟨rfl, rfl⟩ := hp
      have hres : (cR n 11 2 0 (0, 0, 0, [])) = cRes n := rfl
      rw [hres] at hw
      obtain ⟨z, hzr⟩ : ∃ z, z = resT kd n := ⟨_, rfl⟩
      have hz9 : z = ((cRes n).1, (cRes n).2.1, (cRes n).2.2.1, (cRes n).2.2.2.1) := by rw [hzr, hkd0]; exact res_c n
      generalize cRes n = rr at hz9 hw
      obtain ⟨y1, y2, y3, y4, y5⟩ := rr
      subst hz9
      have hw : WS G A s.heap H locs ((s0, .inr (3, [.int (nI kd), .ref r0, .int (nI kn), .int (nI (ttOf kd kn N))])) :: (r0, .inl (G.2.2.2, N, .inr (.inr (.inr (.inr (fun i => some (ad i))))))) :: (ad n, .inr (1, [.int (nI n), .int (nI y1), .int (nI y2), .int (nI y3), .long (lN y4)])) :: (L2 ++ L1)) := ws_subT (X := [(s0, .inr (3, [.int (nI kd), .ref r0, .int (nI kn), .int (nI (ttOf kd kn N))])), (r0, .inl (G.2.2.2, N, .inr (.inr (.inr (.inr (fun i => some (ad i))))))), (ad n, .inr (1, [.int (nI n), .int (nI y1), .int (nI y2), .int (nI y3), .long (lN y4)]))]) (cx := [(s0, .inr (3, [.int (nI kd), .ref r0, .int (nI kn), .int (nI (ttOf kd kn N))])), (r0, .inl (G.2.2.2, N, .inr (.inr (.inr (.inr (fun i => some (ad i))))))), (ad n, .inr (1, [.int (nI n), .int (nI y1), .int (nI y2), .int (nI y3), .long (lN y4)]))]) (pl := (L2 ++ L1)) hw [0, 1, 2] rfl rfl
      refine W.eq (g2 := F0 mt 52 ls []) rfl ?_
      refine lv_aload_n hx hb dX6_found_52 rfl (lv_at hl 2 rfl) ?_
      refine lv_dup hx hb dX6_found_53 rfl ?_
      refine xg X hw (C := RX6) (T := TX6) (N := 4) (by decide +kernel) 0 rfl rfl 2 (by decide) rfl (by decide +kernel) rfl dX6_found_54 ?_
      refine lv_iconst (v := 1) hx hb dX6_found_57 (by decide) ?_
      refine lv_iload_n hx hb dX6_found_58 rfl (lv_at hl 1 rfl) ?_
      refine lv_ishl hx hb dX6_found_59 ?_
      refine x_cvi (y := nI (2 ^ n)) (by exact shl1 (by omega)) ?_
      refine lv_ior hx hb dX6_found_60 ?_
      refine x_cvi (y := nI (kn ||| 2 ^ n)) (by exact fa_or _ _) ?_
      refine xp X hw (C := RX6) (ty := .int) (T := TX6) (N := 4) (by decide +kernel) tyX6 tyX6_ok nmX6 0 rfl rfl 2 (by decide) rfl (by decide +kernel) rfl (by decide +kernel) rfl rfl (Nat.le_of_ble_eq_true rfl) dX6_found_61 (ws' := ((s0, .inr (3, [.int (nI kd), .ref r0, .int (nI (kn ||| 2 ^ n)), .int (nI (ttOf kd kn N))])) :: (r0, .inl (G.2.2.2, N, .inr (.inr (.inr (.inr (fun i => some (ad i))))))) :: (ad n, .inr (1, [.int (nI n), .int (nI y1), .int (nI y2), .int (nI y3), .long (lN y4)])) :: (L2 ++ L1))) rfl (fun H locs hw => ?_)
      refine lv_aload_n hx hb dX6_found_64 rfl (lv_at hl 2 rfl) ?_
      refine lv_dup hx hb dX6_found_65 rfl ?_
      refine xg X hw (C := RX6) (T := TX6) (N := 4) (by decide +kernel) 0 rfl rfl 3 (by decide) rfl (by decide +kernel) rfl dX6_found_66 ?_
      refine lv_aload_n hx hb dX6_found_69 rfl (lv_at hl 0 rfl) ?_
      refine xgN (host := RX7) X hw (C := RX2) (T := TX2) (N := 5) (by decide +kernel) 2 rfl rfl 3 (by decide) rfl (by decide +kernel) rfl dX6_found_70 ?_
      refine lv_iadd hx hb dX6_found_73 ?_
      refine x_cvi (y := nI (ttOf kd kn N + y3)) (by exact nI_add _ _) ?_
      refine xp X hw (C := RX6) (ty := .int) (T := TX6) (N := 4) (by decide +kernel) tyX6 tyX6_ok nmX6 0 rfl rfl 3 (by decide) rfl (by decide +kernel) rfl (by decide +kernel) rfl rfl (Nat.le_of_ble_eq_true rfl) dX6_found_74 (ws' := ((s0, .inr (3, [.int (nI kd), .ref r0, .int (nI (kn ||| 2 ^ n)), .int (nI (ttOf kd kn N + y3))])) :: (r0, .inl (G.2.2.2, N, .inr (.inr (.inr (.inr (fun i => some (ad i))))))) :: (ad n, .inr (1, [.int (nI n), .int (nI y1), .int (nI y2), .int (nI y3), .long (lN y4)])) :: (L2 ++ L1))) rfl (fun H locs hw => ?_)
      refine lv_aload_n hx hb dX6_found_77 rfl (lv_at hl 0 rfl) ?_
      have hw := sr_end (z := (y1, y2, y3, y4)) hnN hbt hsp hzr hw
      refine hret _ _ _ _ _ _ dX6_found_78 hw ?_
      exact ⟨rfl, rfl⟩
    · have hkd0 : kd = 0 := by rcases hkd with h | h; (· exact h.1); exact absurd c38 (by rw [h.1]; decide)
      refine lv_aload_n hx hb dX6_found_41 rfl (lv_at hl 0 rfl) ?_
      refine xcST (X0 := [(s0, .inr (3, [.int (nI kd), .ref r0, .int (nI kn), .int (nI (ttOf kd kn N))])), (r0, .inl (G.2.2.2, N, .inr (.inr (.inr (.inr (fun i => some (ad i))))))), (ad n, .inr (1, [.int (nI n), .int (nI 0), .int (nI 0), .int (nI 0), .long (lN 0)]))]) (pl := (L2 ++ L1)) (n := 1) (As := [.ref (ad n)]) (rest := []) (wc := [(ad n, .inr (1, [.int (nI n), .int (nI 0), .int (nI 0), .int (nI 0), .long (lN 0)]))]) (wr := [(s0, .inr (3, [.int (nI kd), .ref r0, .int (nI kn), .int (nI (ttOf kd kn N))])), (r0, .inl (G.2.2.2, N, .inr (.inr (.inr (.inr (fun i => some (ad i)))))))]) X hw (c_X5_run l G (ad n) n 0 0 0 0 ([]) (by omega) (by omega)) gX6_found_X5_run rfl ⟨rfl, rfl⟩ (by decide +kernel) ⟨by decide, by decide⟩ rfl hl.1 rfl (Nat.le_of_ble_eq_true rfl) dX6_found_42 ⟨by decide, by decide⟩ [2] [0, 1] rfl rfl rfl rfl (by decide) (fun r w1 H locs hp hw => ?_)
      obtain ⟨rfl, rfl⟩ := hp
      have hres : (rR n (61 - n * (n - 1) / 2) (n * (n - 1) / 2) 0 (0, 0, 0, [])) = rRes n := rfl
      rw [hres] at hw
      obtain ⟨z, hzr⟩ : ∃ z, z = resT kd n := ⟨_, rfl⟩
      have hz9 : z = ((rRes n).1, (rRes n).2.1, (rRes n).2.2.1, (rRes n).2.2.2.1) := by rw [hzr, hkd0]; exact res_r n
      generalize rRes n = rr at hz9 hw
      obtain ⟨y1, y2, y3, y4, y5⟩ := rr
      subst hz9
      have hw : WS G A s.heap H locs ((s0, .inr (3, [.int (nI kd), .ref r0, .int (nI kn), .int (nI (ttOf kd kn N))])) :: (r0, .inl (G.2.2.2, N, .inr (.inr (.inr (.inr (fun i => some (ad i))))))) :: (ad n, .inr (1, [.int (nI n), .int (nI y1), .int (nI y2), .int (nI y3), .long (lN y4)])) :: (L2 ++ L1)) := ws_subT (X := [(s0, .inr (3, [.int (nI kd), .ref r0, .int (nI kn), .int (nI (ttOf kd kn N))])), (r0, .inl (G.2.2.2, N, .inr (.inr (.inr (.inr (fun i => some (ad i))))))), (ad n, .inr (1, [.int (nI n), .int (nI y1), .int (nI y2), .int (nI y3), .long (lN y4)]))]) (cx := [(s0, .inr (3, [.int (nI kd), .ref r0, .int (nI kn), .int (nI (ttOf kd kn N))])), (r0, .inl (G.2.2.2, N, .inr (.inr (.inr (.inr (fun i => some (ad i))))))), (ad n, .inr (1, [.int (nI n), .int (nI y1), .int (nI y2), .int (nI y3), .long (lN y4)]))]) (pl := (L2 ++ L1)) hw [0, 1, 2] rfl rfl
      refine W.eq (g2 := F0 mt 45 ls []) rfl ?_
      refine lv_goto (tgt := 52) hx hb dX6_found_45 (by decide) ?_
      refine lv_aload_n hx hb dX6_found_52 rfl (lv_at hl 2 rfl) ?_
      refine lv_dup hx hb dX6_found_53 rfl ?_
      refine xg X hw (C := RX6) (T := TX6) (N := 4) (by decide +kernel) 0 rfl rfl 2 (by decide) rfl (by decide +kernel) rfl dX6_found_54 ?_
      refine lv_iconst (v := 1) hx hb dX6_found_57 (by decide) ?_
      refine lv_iload_n hx hb dX6_found_58 rfl (lv_at hl 1 rfl) ?_
      refine lv_ishl hx hb dX6_found_59 ?_
      refine x_cvi (y := nI (2 ^ n)) (by exact shl1 (by omega)) ?_
      refine lv_ior hx hb dX6_found_60 ?_
      refine x_cvi (y := nI (kn ||| 2 ^ n)) (by exact fa_or _ _) ?_
      refine xp X hw (C := RX6) (ty := .int) (T := TX6) (N := 4) (by decide +kernel) tyX6 tyX6_ok nmX6 0 rfl rfl 2 (by decide) rfl (by decide +kernel) rfl (by decide +kernel) rfl rfl (Nat.le_of_ble_eq_true rfl) dX6_found_61 (ws' := ((s0, .inr (3, [.int (nI kd), .ref r0, .int (nI (kn ||| 2 ^ n)), .int (nI (ttOf kd kn N))])) :: (r0, .inl (G.2.2.2, N, .inr (.inr (.inr (.inr (fun i => some (ad i))))))) :: (ad n, .inr (1, [.int (nI n), .int (nI y1), .int (nI y2), .int (nI y3), .long (lN y4)])) :: (L2 ++ L1))) rfl (fun H locs hw => ?_)
      refine lv_aload_n hx hb dX6_found_64 rfl (lv_at hl 2 rfl) ?_
      refine lv_dup hx hb dX6_found_65 rfl ?_
      refine xg X hw (C := RX6) (T := TX6) (N := 4) (by decide +kernel) 0 rfl rfl 3 (by decide) rfl (by decide +kernel) rfl dX6_found_66 ?_
      refine lv_aload_n hx hb dX6_found_69 rfl (lv_at hl 0 rfl) ?_
      refine xgN (host := RX7) X hw (C := RX2) (T := TX2) (N := 5) (by decide +kernel) 2 rfl rfl 3 (by decide) rfl (by decide +kernel) rfl dX6_found_70 ?_
      refine lv_iadd hx hb dX6_found_73 ?_
      refine x_cvi (y := nI (ttOf kd kn N + y3)) (by exact nI_add _ _) ?_
      refine xp X hw (C := RX6) (ty := .int) (T := TX6) (N := 4) (by decide +kernel) tyX6 tyX6_ok nmX6 0 rfl rfl 3 (by decide) rfl (by decide +kernel) rfl (by decide +kernel) rfl rfl (Nat.le_of_ble_eq_true rfl) dX6_found_74 (ws' := ((s0, .inr (3, [.int (nI kd), .ref r0, .int (nI (kn ||| 2 ^ n)), .int (nI (ttOf kd kn N + y3))])) :: (r0, .inl (G.2.2.2, N, .inr (.inr (.inr (.inr (fun i => some (ad i))))))) :: (ad n, .inr (1, [.int (nI n), .int (nI y1), .int (nI y2), .int (nI y3), .long (lN y4)])) :: (L2 ++ L1))) rfl (fun H locs hw => ?_)
      refine lv_aload_n hx hb dX6_found_77 rfl (lv_at hl 0 rfl) ?_
      have hw := sr_end (z := (y1, y2, y3, y4)) hnN hbt hsp hzr hw
      refine hret _ _ _ _ _ _ dX6_found_78 hw ?_
      exact ⟨rfl, rfl⟩
