set_option maxHeartbeats 4000000 in
set_option maxRecDepth 100000 in
theorem c_X1_phaseFrom (l : Launch) (G : GG) (d : Nat) (e0 : Nat) (k0 : Nat) (m : Nat) (er : Nat → Int32) (sk : Nat → Int32) (a : Nat) (b : Nat) (ha : a ≤ 60) (hb2 : b ≤ 60) (hab : a ≠ b) : CT l G yX1_phaseFrom wsX1_phaseFrom ({ frames := 2, cells := 0, slots := 0, locals := 41 } : Room) [.ref d, .int (nI a), .int (nI b)] [(d, .inr (0, [.long (lN m), .ref e0, .ref k0])), (e0, .inl (G.2.1, 61, .inl er)), (k0, .inl (G.2.1, 61, .inl sk))] (fun r w => r = some (.int (phv sk er a b)) ∧ w = [(d, .inr (0, [.long (lN m), .ref e0, .ref k0])), (e0, .inl (G.2.1, 61, .inl er)), (k0, .inl (G.2.1, 61, .inl sk))]) 0 0 := by
  refine ct_i (cc := cX1_phaseFrom) (maxL := 6) (by decide +kernel) rfl (Nat.le_of_ble_eq_true rfl) ?_
  intro p e s mt below meth c A Q X hw hret ls hl
  obtain ⟨hx, hb, -⟩ := id X
  have hl : lv_has ls 6 [(0, .ref d), (1, .int (nI a)), (2, .int (nI b))] := hl
  refine lv_iload_n hx hb dX1_phaseFrom_0 rfl (lv_at hl 1 rfl) ?_
  refine lv_iload_n hx hb dX1_phaseFrom_1 rfl (lv_at hl 2 rfl) ?_
  refine va_mmin hx hb (by rw [X.2.2.1]; exact hl.1.symm) X.2.2.2.1 (X.2.2.2.2.1 _ (by decide +kernel : Cond.methodLink RX1 55 Lib.Math.min.name ∈ wsX1_phaseFrom)) (X.2.2.2.2.1 _ (by decide +kernel : Cond.static Lib.Math.min.name ∈ wsX1_phaseFrom)) (X.2.2.2.2.1 _ (by decide +kernel : Cond.initialized "java/lang/Math" ∈ wsX1_phaseFrom)) (X.2.2.2.2.1 _ (by decide +kernel : Cond.code Lib.Math.min.name Lib.Math.min.code 2 (some .int) ∈ wsX1_phaseFrom)) (by decide) (by decide) (by decide) (by decide) dX1_phaseFrom_2 ?_
  refine x_cvi (y := nI (min a b)) (by exact i_min (by omega) (by omega)) ?_
  refine lv_istore_n (lv' := [(3, .int (nI (min a b))), (0, .ref d), (1, .int (nI a)), (2, .int (nI b))]) hx hb dX1_phaseFrom_5 rfl hl (by decide) rfl (fun ls hl => ?_)
  refine lv_iload_n hx hb dX1_phaseFrom_6 rfl (lv_at hl 2 rfl) ?_
  refine lv_iload_n hx hb dX1_phaseFrom_7 rfl (lv_at hl 3 rfl) ?_
  refine va_mmax hx hb (by rw [X.2.2.1]; exact hl.1.symm) X.2.2.2.1 (X.2.2.2.2.1 _ (by decide +kernel : Cond.methodLink RX1 61 Lib.Math.max.name ∈ wsX1_phaseFrom)) (X.2.2.2.2.1 _ (by decide +kernel : Cond.static Lib.Math.max.name ∈ wsX1_phaseFrom)) (X.2.2.2.2.1 _ (by decide +kernel : Cond.initialized "java/lang/Math" ∈ wsX1_phaseFrom)) (X.2.2.2.2.1 _ (by decide +kernel : Cond.code Lib.Math.max.name Lib.Math.max.code 2 (some .int) ∈ wsX1_phaseFrom)) (by decide) (by decide) (by decide) (by decide) dX1_phaseFrom_8 ?_
  refine x_cvi (y := nI (max a b)) (by exact i_max (by omega) (by omega)) ?_
  refine lv_istore (lv' := [(4, .int (nI (max a b))), (3, .int (nI (min a b))), (0, .ref d), (1, .int (nI a)), (2, .int (nI b))]) hx hb dX1_phaseFrom_11 hl (by decide) rfl (fun ls hl => ?_)
  refine lv_aload_n hx hb dX1_phaseFrom_13 rfl (lv_at hl 2 rfl) ?_
  refine lv_iload hx hb dX1_phaseFrom_14 (lv_at hl 0 rfl) ?_
  refine lv_iload_n hx hb dX1_phaseFrom_16 rfl (lv_at hl 1 rfl) ?_
  refine lv_isub hx hb dX1_phaseFrom_17 ?_
  refine x_cvi (y := nI (max a b - min a b)) (by exact pk_sub (by omega)) ?_
  refine xcV (n := 1) (As := [.int (nI (max a b - min a b))]) (rest := []) (wc := [(d, .inr (0, [.long (lN m), .ref e0, .ref k0])), (e0, .inl (G.2.1, 61, .inl er)), (k0, .inl (G.2.1, 61, .inl sk))]) (wr := []) X hw (c_X1_skyOf l G d e0 k0 m er sk (nI (max a b - min a b)) ) (C := RX1) gX1_phaseFrom_X1_skyOf (q0 := 0) rfl rfl rfl ⟨rfl, rfl⟩ (by decide +kernel) ⟨by decide, by decide⟩ rfl hl.1 rfl (Nat.le_of_ble_eq_true rfl) dX1_phaseFrom_18 ⟨by decide, by decide⟩ [0, 1, 2] [] rfl rfl rfl rfl (by decide) (fun r w1 H locs hp hw => ?_)
  obtain ⟨rfl, rfl⟩ := hp
  have hw := hw.sub (ws' := [(d, .inr (0, [.long (lN m), .ref e0, .ref k0])), (e0, .inl (G.2.1, 61, .inl er)), (k0, .inl (G.2.1, 61, .inl sk))]) [0, 1, 2] rfl rfl
  refine W.eq (g2 := F0 mt 21 ls [.int (skX sk (nI (max a b - min a b)))]) rfl ?_
  refine x_cvi (y := sk (max a b - min a b)) (by exact skX_nI (by omega) (by omega)) ?_
  refine lv_aload_n hx hb dX1_phaseFrom_21 rfl (lv_at hl 2 rfl) ?_
  refine lv_iload hx hb dX1_phaseFrom_22 (lv_at hl 0 rfl) ?_
  refine xcV (n := 1) (As := [.int (nI (max a b))]) (rest := [.int (sk (max a b - min a b))]) (wc := [(d, .inr (0, [.long (lN m), .ref e0, .ref k0])), (e0, .inl (G.2.1, 61, .inl er)), (k0, .inl (G.2.1, 61, .inl sk))]) (wr := []) X hw (c_X1_errorAt l G d e0 k0 m er sk (nI (max a b)) ) (C := RX1) gX1_phaseFrom_X1_errorAt (q0 := 0) rfl rfl rfl ⟨rfl, rfl⟩ (by decide +kernel) ⟨by decide, by decide⟩ rfl hl.1 rfl (Nat.le_of_ble_eq_true rfl) dX1_phaseFrom_24 ⟨by decide, by decide⟩ [0, 1, 2] [] rfl rfl rfl rfl (by decide) (fun r w1 H locs hp hw => ?_)
  obtain ⟨rfl, rfl⟩ := hp
  have hw := hw.sub (ws' := [(d, .inr (0, [.long (lN m), .ref e0, .ref k0])), (e0, .inl (G.2.1, 61, .inl er)), (k0, .inl (G.2.1, 61, .inl sk))]) [0, 1, 2] rfl rfl
  refine W.eq (g2 := F0 mt 27 ls [.int (erX er (nI (max a b))), .int (sk (max a b - min a b))]) rfl ?_
  refine x_cvi (y := er (max a b)) (by exact erX_nI (by omega)) ?_
  refine lv_iadd hx hb dX1_phaseFrom_27 ?_
  refine lv_aload_n hx hb dX1_phaseFrom_28 rfl (lv_at hl 2 rfl) ?_
  refine lv_iload_n hx hb dX1_phaseFrom_29 rfl (lv_at hl 1 rfl) ?_
  refine xcV (n := 1) (As := [.int (nI (min a b))]) (rest := [.int ((sk (max a b - min a b)) + (er (max a b)))]) (wc := [(d, .inr (0, [.long (lN m), .ref e0, .ref k0])), (e0, .inl (G.2.1, 61, .inl er)), (k0, .inl (G.2.1, 61, .inl sk))]) (wr := []) X hw (c_X1_errorAt l G d e0 k0 m er sk (nI (min a b)) ) (C := RX1) gX1_phaseFrom_X1_errorAt (q0 := 0) rfl rfl rfl ⟨rfl, rfl⟩ (by decide +kernel) ⟨by decide, by decide⟩ rfl hl.1 rfl (Nat.le_of_ble_eq_true rfl) dX1_phaseFrom_30 ⟨by decide, by decide⟩ [0, 1, 2] [] rfl rfl rfl rfl (by decide) (fun r w1 H locs hp hw => ?_)
  obtain ⟨rfl, rfl⟩ := hp
  have hw := hw.sub (ws' := [(d, .inr (0, [.long (lN m), .ref e0, .ref k0])), (e0, .inl (G.2.1, 61, .inl er)), (k0, .inl (G.2.1, 61, .inl sk))]) [0, 1, 2] rfl rfl
  refine W.eq (g2 := F0 mt 33 ls [.int (erX er (nI (min a b))), .int ((sk (max a b - min a b)) + (er (max a b)))]) rfl ?_
  refine x_cvi (y := er (min a b)) (by exact erX_nI (by omega)) ?_
  refine lv_isub hx hb dX1_phaseFrom_33 ?_
  refine lv_istore (lv' := [(5, .int (((sk (max a b - min a b)) + (er (max a b))) - (er (min a b)))), (4, .int (nI (max a b))), (3, .int (nI (min a b))), (0, .ref d), (1, .int (nI a)), (2, .int (nI b))]) hx hb dX1_phaseFrom_34 hl (by decide) rfl (fun ls hl => ?_)
  refine lv_iload_n hx hb dX1_phaseFrom_36 rfl (lv_at hl 4 rfl) ?_
  refine lv_iload_n hx hb dX1_phaseFrom_37 rfl (lv_at hl 5 rfl) ?_
  refine lv_icmp_ge (tgt := 46) hx hb dX1_phaseFrom_38 (by decide) (fun c38 => ?_) (fun c38 => ?_)
  · have hlt : b < a := by have := i_le (by omega) (by omega) c38; omega
    refine lv_iload hx hb dX1_phaseFrom_46 (lv_at hl 0 rfl) ?_
    refine lv_ineg hx hb dX1_phaseFrom_48 ?_
    refine lv_sipush (v := 360) hx hb dX1_phaseFrom_49 (by decide) ?_
    refine xcP (n := 2) (As := [.int (-(((sk (max a b - min a b)) + (er (max a b))) - (er (min a b)))), .int 360]) (rest := []) X hw (c_J9_floorMod_7cf53 l G (-(((sk (max a b - min a b)) + (er (max a b))) - (er (min a b)))) 360 (by decide)) gX1_phaseFrom_J9_floorMod_7cf53 rfl ⟨rfl, rfl⟩ (by decide +kernel) ⟨by decide, by decide⟩ rfl hl.1 rfl (Nat.le_of_ble_eq_true rfl) dX1_phaseFrom_52 ⟨by decide, by decide⟩ (fun r w1 H locs hp hw => ?_)
    obtain rfl := hp
    refine W.eq (g2 := F0 mt 55 ls [.int (fm (-(((sk (max a b - min a b)) + (er (max a b))) - (er (min a b)))) 360)]) rfl ?_
    refine hret _ _ _ _ _ _ dX1_phaseFrom_55 hw ?_
    exact ⟨congrArg (fun z => some (Value.int z)) (by exact phv_gt hlt), rfl⟩
  · have hlt : a < b := i_nle (by omega) (by omega) c38
    refine lv_iload hx hb dX1_phaseFrom_41 (lv_at hl 0 rfl) ?_
    refine lv_goto (tgt := 49) hx hb dX1_phaseFrom_43 (by decide) ?_
    refine lv_sipush (v := 360) hx hb dX1_phaseFrom_49 (by decide) ?_
    refine xcP (n := 2) (As := [.int (((sk (max a b - min a b)) + (er (max a b))) - (er (min a b))), .int 360]) (rest := []) X hw (c_J9_floorMod_7cf53 l G (((sk (max a b - min a b)) + (er (max a b))) - (er (min a b))) 360 (by decide)) gX1_phaseFrom_J9_floorMod_7cf53 rfl ⟨rfl, rfl⟩ (by decide +kernel) ⟨by decide, by decide⟩ rfl hl.1 rfl (Nat.le_of_ble_eq_true rfl) dX1_phaseFrom_52 ⟨by decide, by decide⟩ (fun r w1 H locs hp hw => ?_)
    obtain rfl := hp
    refine W.eq (g2 := F0 mt 55 ls [.int (fm (((sk (max a b - min a b)) + (er (max a b))) - (er (min a b))) 360)]) rfl ?_
    refine hret _ _ _ _ _ _ dX1_phaseFrom_55 hw ?_
    exact ⟨congrArg (fun z => some (Value.int z)) (by exact phv_lt hlt), rfl⟩

set_option maxHeartbeats 4000000 in
set_option maxRecDepth 100000 in
theorem c_X1_takeAllFrom (l : Launch) (G : GG) (d : Nat) (e0 : Nat) (k0 : Nat) (m : Nat) (er : Nat → Int32) (sk : Nat → Int32) (db : Nat) (e0b : Nat) (k0b : Nat) (m2 : Nat) (er2 : Nat → Int32) (sk2 : Nat → Int32)  : CT l G yX1_takeAllFrom wsX1_takeAllFrom ({ frames := 1, cells := 0, slots := 0, locals := 60 } : Room) [.ref d, .ref db] [(d, .inr (0, [.long (lN m), .ref e0, .ref k0])), (e0, .inl (G.2.1, 61, .inl er)), (k0, .inl (G.2.1, 61, .inl sk)), (db, .inr (0, [.long (lN m2), .ref e0b, .ref k0b])), (e0b, .inl (G.2.1, 61, .inl er2)), (k0b, .inl (G.2.1, 61, .inl sk2))] (fun r w => r = none ∧ w = [(d, .inr (0, [.long (lN m2), .ref e0, .ref k0])), (e0, .inl (G.2.1, 61, .inl er2)), (k0, .inl (G.2.1, 61, .inl sk2)), (db, .inr (0, [.long (lN m2), .ref e0b, .ref k0b])), (e0b, .inl (G.2.1, 61, .inl er2)), (k0b, .inl (G.2.1, 61, .inl sk2))]) 0 0 := by
  refine ct_v (cc := cX1_takeAllFrom) (maxL := 2) (by decide +kernel) rfl (Nat.le_of_ble_eq_true rfl) ?_
  intro p e s mt below meth c A Q X hw hret ls hl
  obtain ⟨hx, hb, -⟩ := id X
  have hl : lv_has ls 2 [(0, .ref d), (1, .ref db)] := hl
  refine lv_aload_n hx hb dX1_takeAllFrom_0 rfl (lv_at hl 0 rfl) ?_
  refine lv_aload_n hx hb dX1_takeAllFrom_1 rfl (lv_at hl 1 rfl) ?_
  refine xg X hw (C := RX1) (T := TX1) (N := 3) (by decide +kernel) 3 rfl rfl 0 (by decide) rfl (by decide +kernel) rfl dX1_takeAllFrom_2 ?_
  refine xp X hw (C := RX1) (ty := .long) (T := TX1) (N := 3) (by decide +kernel) tyX1 tyX1_ok nmX1 0 rfl rfl 0 (by decide) rfl (by decide +kernel) rfl (by decide +kernel) rfl rfl (Nat.le_of_ble_eq_true rfl) dX1_takeAllFrom_5 (ws' := [(d, .inr (0, [.long (lN m2), .ref e0, .ref k0])), (e0, .inl (G.2.1, 61, .inl er)), (k0, .inl (G.2.1, 61, .inl sk)), (db, .inr (0, [.long (lN m2), .ref e0b, .ref k0b])), (e0b, .inl (G.2.1, 61, .inl er2)), (k0b, .inl (G.2.1, 61, .inl sk2))]) rfl (fun H locs hw => ?_)
  refine lv_aload_n hx hb dX1_takeAllFrom_8 rfl (lv_at hl 1 rfl) ?_
  refine xg X hw (C := RX1) (T := TX1) (N := 3) (by decide +kernel) 3 rfl rfl 1 (by decide) rfl (by decide +kernel) rfl dX1_takeAllFrom_9 ?_
  refine lv_iconst (v := 0) hx hb dX1_takeAllFrom_12 (by decide) ?_
  refine lv_aload_n hx hb dX1_takeAllFrom_13 rfl (lv_at hl 0 rfl) ?_
  refine xg X hw (C := RX1) (T := TX1) (N := 3) (by decide +kernel) 0 rfl rfl 1 (by decide) rfl (by decide +kernel) rfl dX1_takeAllFrom_14 ?_
  refine lv_iconst (v := 0) hx hb dX1_takeAllFrom_17 (by decide) ?_
  refine lv_aload_n hx hb dX1_takeAllFrom_18 rfl (lv_at hl 0 rfl) ?_
  refine xg X hw (C := RX1) (T := TX1) (N := 3) (by decide +kernel) 0 rfl rfl 1 (by decide) rfl (by decide +kernel) rfl dX1_takeAllFrom_19 ?_
  refine xlen X hw 1 0 rfl rfl (v := 61) (by rfl) dX1_takeAllFrom_22 ?_
  refine xcopy X hw 4 1 rfl rfl (by decide +kernel) (by decide +kernel) (by decide +kernel) (by decide +kernel) (by decide) (by decide) hl.1 (by decide) dX1_takeAllFrom_23 (ws' := [(d, .inr (0, [.long (lN m2), .ref e0, .ref k0])), (e0, .inl (G.2.1, 61, .inl er2)), (k0, .inl (G.2.1, 61, .inl sk)), (db, .inr (0, [.long (lN m2), .ref e0b, .ref k0b])), (e0b, .inl (G.2.1, 61, .inl er2)), (k0b, .inl (G.2.1, 61, .inl sk2))]) rfl (fun H locs hw => ?_)
  refine lv_aload_n hx hb dX1_takeAllFrom_26 rfl (lv_at hl 1 rfl) ?_
  refine xg X hw (C := RX1) (T := TX1) (N := 3) (by decide +kernel) 3 rfl rfl 2 (by decide) rfl (by decide +kernel) rfl dX1_takeAllFrom_27 ?_
  refine lv_iconst (v := 0) hx hb dX1_takeAllFrom_30 (by decide) ?_
  refine lv_aload_n hx hb dX1_takeAllFrom_31 rfl (lv_at hl 0 rfl) ?_
  refine xg X hw (C := RX1) (T := TX1) (N := 3) (by decide +kernel) 0 rfl rfl 2 (by decide) rfl (by decide +kernel) rfl dX1_takeAllFrom_32 ?_
  refine lv_iconst (v := 0) hx hb dX1_takeAllFrom_35 (by decide) ?_
  refine lv_aload_n hx hb dX1_takeAllFrom_36 rfl (lv_at hl 0 rfl) ?_
  refine xg X hw (C := RX1) (T := TX1) (N := 3) (by decide +kernel) 0 rfl rfl 2 (by decide) rfl (by decide +kernel) rfl dX1_takeAllFrom_37 ?_
  refine xlen X hw 2 0 rfl rfl (v := 61) (by rfl) dX1_takeAllFrom_40 ?_
  refine xcopy X hw 5 2 rfl rfl (by decide +kernel) (by decide +kernel) (by decide +kernel) (by decide +kernel) (by decide) (by decide) hl.1 (by decide) dX1_takeAllFrom_41 (ws' := [(d, .inr (0, [.long (lN m2), .ref e0, .ref k0])), (e0, .inl (G.2.1, 61, .inl er2)), (k0, .inl (G.2.1, 61, .inl sk2)), (db, .inr (0, [.long (lN m2), .ref e0b, .ref k0b])), (e0b, .inl (G.2.1, 61, .inl er2)), (k0b, .inl (G.2.1, 61, .inl sk2))]) rfl (fun H locs hw => ?_)
  refine hret _ _ _ _ _ dX1_takeAllFrom_44 hw ?_
  exact ⟨rfl, rfl⟩

set_option maxHeartbeats 4000000 in
set_option maxRecDepth 100000 in
theorem c_X4_ring (l : Launch) (G : GG) (x : Int32)  : CT l G yX4_ring wsX4_ring ({ frames := 1, cells := 0, slots := 0, locals := 22 } : Room) [.int x] [] (fun r _ => r = some (.int (fm x 16))) 0 0 := by
  refine ct_i (cc := cX4_ring) (maxL := 1) (by decide +kernel) rfl (Nat.le_of_ble_eq_true rfl) ?_
  intro p e s mt below meth c A Q X hw hret ls hl
  obtain ⟨hx, hb, -⟩ := id X
  have hl : lv_has ls 1 [(0, .int x)] := hl
  refine lv_iload_n hx hb dX4_ring_0 rfl (lv_at hl 0 rfl) ?_
  refine lv_bipush (v := 16) hx hb dX4_ring_1 (by decide) ?_
  refine xcP (n := 2) (As := [.int x, .int 16]) (rest := []) X hw (c_J9_floorMod_7cf53 l G x 16 (by decide)) gX4_ring_J9_floorMod_7cf53 rfl ⟨rfl, rfl⟩ (by decide +kernel) ⟨by decide, by decide⟩ rfl hl.1 rfl (Nat.le_of_ble_eq_true rfl) dX4_ring_3 ⟨by decide, by decide⟩ (fun r w1 H locs hp hw => ?_)
  obtain rfl := hp
  refine W.eq (g2 := F0 mt 6 ls [.int (fm x 16)]) rfl ?_
  refine hret _ _ _ _ _ _ dX4_ring_6 hw ?_
  rfl

set_option maxHeartbeats 4000000 in
set_option maxRecDepth 100000 in
theorem c_X4_count (l : Launch) (G : GG) (g : Nat) (s0 : Nat) (b0 : Nat) (st : Nat → Int32) (be : Nat → Int32) (nx : Nat) (cn : Nat)  : CT l G yX4_count wsX4_count ({ frames := 0, cells := 0, slots := 0, locals := 0 } : Room) [.ref g] [(g, .inr (2, [.ref s0, .ref b0, .int (nI nx), .int (nI cn)])), (s0, .inl (G.2.1, 16, .inl st)), (b0, .inl (G.2.1, 16, .inl be))] (fun r w => r = some (.int (nI cn)) ∧ w = [(g, .inr (2, [.ref s0, .ref b0, .int (nI nx), .int (nI cn)])), (s0, .inl (G.2.1, 16, .inl st)), (b0, .inl (G.2.1, 16, .inl be))]) 0 0 := by
  refine ct_i (cc := cX4_count) (maxL := 1) (by decide +kernel) rfl (Nat.le_of_ble_eq_true rfl) ?_
  intro p e s mt below meth c A Q X hw hret ls hl
  obtain ⟨hx, hb, -⟩ := id X
  have hl : lv_has ls 1 [(0, .ref g)] := hl
  refine lv_aload_n hx hb dX4_count_0 rfl (lv_at hl 0 rfl) ?_
  refine xg X hw (C := RX4) (T := TX4) (N := 4) (by decide +kernel) 0 rfl rfl 3 (by decide) rfl (by decide +kernel) rfl dX4_count_1 ?_
  refine hret _ _ _ _ _ _ dX4_count_4 hw ?_
  exact ⟨rfl, rfl⟩

set_option maxHeartbeats 4000000 in
set_option maxRecDepth 100000 in
theorem c_X4_add (l : Launch) (G : GG) (g : Nat) (s0 : Nat) (b0 : Nat) (st : Nat → Int32) (be : Nat → Int32) (nx : Nat) (cn : Nat) (x : Int32) (v : Int32) (hn : nx < 16) (hc : cn ≤ 16) : CT l G yX4_add wsX4_add ({ frames := 2, cells := 0, slots := 0, locals := 42 } : Room) [.ref g, .int x, .int v] [(g, .inr (2, [.ref s0, .ref b0, .int (nI nx), .int (nI cn)])), (s0, .inl (G.2.1, 16, .inl st)), (b0, .inl (G.2.1, 16, .inl be))] (fun r w => r = none ∧ w = [(g, .inr (2, [.ref s0, .ref b0, .int (nI ((nx + 1) % 16)), .int (nI (lgc cn))])), (s0, .inl (G.2.1, 16, .inl (upd st nx x))), (b0, .inl (G.2.1, 16, .inl (upd be nx v)))]) 0 0 := by
  refine ct_v (cc := cX4_add) (maxL := 4) (by decide +kernel) rfl (Nat.le_of_ble_eq_true rfl) ?_
  intro p e s mt below meth c A Q X hw hret ls hl
  obtain ⟨hx, hb, -⟩ := id X
  have hl : lv_has ls 4 [(0, .ref g), (1, .int x), (2, .int v)] := hl
  refine lv_aload_n hx hb dX4_add_0 rfl (lv_at hl 0 rfl) ?_
  refine xg X hw (C := RX4) (T := TX4) (N := 4) (by decide +kernel) 0 rfl rfl 2 (by decide) rfl (by decide +kernel) rfl dX4_add_1 ?_
  refine xcP (n := 1) (As := [.int (nI nx)]) (rest := []) X hw (c_X4_ring l G (nI nx) ) gX4_add_X4_ring rfl ⟨rfl, rfl⟩ (by decide +kernel) ⟨by decide, by decide⟩ rfl hl.1 rfl (Nat.le_of_ble_eq_true rfl) dX4_add_4 ⟨by decide, by decide⟩ (fun r w1 H locs hp hw => ?_)
  obtain rfl := hp
  refine W.eq (g2 := F0 mt 7 ls [.int (fm (nI nx) 16)]) rfl ?_
  refine x_cvi (y := nI nx) (by rw [fm16 nx (by omega), Nat.mod_eq_of_lt hn]) ?_
  refine lv_istore_n (lv' := [(3, .int (nI nx)), (0, .ref g), (1, .int x), (2, .int v)]) hx hb dX4_add_7 rfl hl (by decide) rfl (fun ls hl => ?_)
  refine lv_aload_n hx hb dX4_add_8 rfl (lv_at hl 1 rfl) ?_
  refine xg X hw (C := RX4) (T := TX4) (N := 4) (by decide +kernel) 0 rfl rfl 0 (by decide) rfl (by decide +kernel) rfl dX4_add_9 ?_
  refine lv_iload_n hx hb dX4_add_12 rfl (lv_at hl 0 rfl) ?_
  refine lv_iload_n hx hb dX4_add_13 rfl (lv_at hl 2 rfl) ?_
  refine xis X hw 1 rfl (j := nx) (rfl) (by omega) (by decide) dX4_add_14 (ws' := [(g, .inr (2, [.ref s0, .ref b0, .int (nI nx), .int (nI cn)])), (s0, .inl (G.2.1, 16, .inl (upd st nx x))), (b0, .inl (G.2.1, 16, .inl be))]) rfl (fun H locs hw => ?_)
  refine lv_aload_n hx hb dX4_add_15 rfl (lv_at hl 1 rfl) ?_
  refine xg X hw (C := RX4) (T := TX4) (N := 4) (by decide +kernel) 0 rfl rfl 1 (by decide) rfl (by decide +kernel) rfl dX4_add_16 ?_
  refine lv_iload_n hx hb dX4_add_19 rfl (lv_at hl 0 rfl) ?_
  refine lv_iload_n hx hb dX4_add_20 rfl (lv_at hl 3 rfl) ?_
  refine xis X hw 2 rfl (j := nx) (rfl) (by omega) (by decide) dX4_add_21 (ws' := [(g, .inr (2, [.ref s0, .ref b0, .int (nI nx), .int (nI cn)])), (s0, .inl (G.2.1, 16, .inl (upd st nx x))), (b0, .inl (G.2.1, 16, .inl (upd be nx v)))]) rfl (fun H locs hw => ?_)
  refine lv_aload_n hx hb dX4_add_22 rfl (lv_at hl 1 rfl) ?_
  refine lv_iload_n hx hb dX4_add_23 rfl (lv_at hl 0 rfl) ?_
  refine lv_iconst (v := 1) hx hb dX4_add_24 (by decide) ?_
  refine lv_iadd hx hb dX4_add_25 ?_
  refine x_cvi (y := nI (nx + 1)) (by exact nI_1 _) ?_
  refine xcP (n := 1) (As := [.int (nI (nx + 1))]) (rest := [.ref g]) X hw (c_X4_ring l G (nI (nx + 1)) ) gX4_add_X4_ring rfl ⟨rfl, rfl⟩ (by decide +kernel) ⟨by decide, by decide⟩ rfl hl.1 rfl (Nat.le_of_ble_eq_true rfl) dX4_add_26 ⟨by decide, by decide⟩ (fun r w1 H locs hp hw => ?_)
  obtain rfl := hp
  refine W.eq (g2 := F0 mt 29 ls [.int (fm (nI (nx + 1)) 16), .ref g]) rfl ?_
  refine x_cvi (y := nI ((nx + 1) % 16)) (by exact fm16 _ (by omega)) ?_
  refine xp X hw (C := RX4) (ty := .int) (T := TX4) (N := 4) (by decide +kernel) tyX4 tyX4_ok nmX4 0 rfl rfl 2 (by decide) rfl (by decide +kernel) rfl (by decide +kernel) rfl rfl (Nat.le_of_ble_eq_true rfl) dX4_add_29 (ws' := [(g, .inr (2, [.ref s0, .ref b0, .int (nI ((nx + 1) % 16)), .int (nI cn)])), (s0, .inl (G.2.1, 16, .inl (upd st nx x))), (b0, .inl (G.2.1, 16, .inl (upd be nx v)))]) rfl (fun H locs hw => ?_)
  refine lv_aload_n hx hb dX4_add_32 rfl (lv_at hl 1 rfl) ?_
  refine xg X hw (C := RX4) (T := TX4) (N := 4) (by decide +kernel) 0 rfl rfl 3 (by decide) rfl (by decide +kernel) rfl dX4_add_33 ?_
  refine lv_bipush (v := 16) hx hb dX4_add_36 (by decide) ?_
  refine lv_icmp_ge (tgt := 51) hx hb dX4_add_38 (by decide) (fun c38 => ?_) (fun c38 => ?_)
  · have hk2 : 16 ≤ cn := i_le (a := 16) (by decide) (by omega) c38
    refine hret _ _ _ _ _ dX4_add_51 hw ?_
    exact ⟨rfl, by unfold lgc; rw [if_neg (by omega)]⟩
  · have hk2 : cn < 16 := i_nle (a := 16) (by decide) (by omega) c38
    refine lv_aload_n hx hb dX4_add_41 rfl (lv_at hl 1 rfl) ?_
    refine lv_dup hx hb dX4_add_42 rfl ?_
    refine xg X hw (C := RX4) (T := TX4) (N := 4) (by decide +kernel) 0 rfl rfl 3 (by decide) rfl (by decide +kernel) rfl dX4_add_43 ?_
    refine lv_iconst (v := 1) hx hb dX4_add_46 (by decide) ?_
    refine lv_iadd hx hb dX4_add_47 ?_
    refine x_cvi (y := nI (cn + 1)) (by exact nI_1 _) ?_
    refine xp X hw (C := RX4) (ty := .int) (T := TX4) (N := 4) (by decide +kernel) tyX4 tyX4_ok nmX4 0 rfl rfl 3 (by decide) rfl (by decide +kernel) rfl (by decide +kernel) rfl rfl (Nat.le_of_ble_eq_true rfl) dX4_add_48 (ws' := [(g, .inr (2, [.ref s0, .ref b0, .int (nI ((nx + 1) % 16)), .int (nI (cn + 1))])), (s0, .inl (G.2.1, 16, .inl (upd st nx x))), (b0, .inl (G.2.1, 16, .inl (upd be nx v)))]) rfl (fun H locs hw => ?_)
    refine hret _ _ _ _ _ dX4_add_51 hw ?_
    exact ⟨rfl, by unfold lgc; rw [if_pos hk2]⟩

set_option maxHeartbeats 4000000 in
set_option maxRecDepth 100000 in
theorem c_X4_lastStation (l : Launch) (G : GG) (g : Nat) (s0 : Nat) (b0 : Nat) (st : Nat → Int32) (be : Nat → Int32) (nx : Nat) (cn : Nat) (hn : nx < 16) : CT l G yX4_lastStation wsX4_lastStation ({ frames := 2, cells := 0, slots := 0, locals := 42 } : Room) [.ref g] [(g, .inr (2, [.ref s0, .ref b0, .int (nI nx), .int (nI cn)])), (s0, .inl (G.2.1, 16, .inl st)), (b0, .inl (G.2.1, 16, .inl be))] (fun r w => r = some (.int (st ((nx + 15) % 16))) ∧ w = [(g, .inr (2, [.ref s0, .ref b0, .int (nI nx), .int (nI cn)])), (s0, .inl (G.2.1, 16, .inl st)), (b0, .inl (G.2.1, 16, .inl be))]) 0 0 := by
  refine ct_i (cc := cX4_lastStation) (maxL := 1) (by decide +kernel) rfl (Nat.le_of_ble_eq_true rfl) ?_
  intro p e s mt below meth c A Q X hw hret ls hl
  obtain ⟨hx, hb, -⟩ := id X
  have hl : lv_has ls 1 [(0, .ref g)] := hl
  refine lv_aload_n hx hb dX4_lastStation_0 rfl (lv_at hl 0 rfl) ?_
  refine xg X hw (C := RX4) (T := TX4) (N := 4) (by decide +kernel) 0 rfl rfl 0 (by decide) rfl (by decide +kernel) rfl dX4_lastStation_1 ?_
  refine lv_aload_n hx hb dX4_lastStation_4 rfl (lv_at hl 0 rfl) ?_
  refine xg X hw (C := RX4) (T := TX4) (N := 4) (by decide +kernel) 0 rfl rfl 2 (by decide) rfl (by decide +kernel) rfl dX4_lastStation_5 ?_
  refine lv_iconst (v := 1) hx hb dX4_lastStation_8 (by decide) ?_
  refine lv_isub hx hb dX4_lastStation_9 ?_
  refine xcP (n := 1) (As := [.int ((nI nx) - 1)]) (rest := [.ref s0]) X hw (c_X4_ring l G ((nI nx) - 1) ) gX4_lastStation_X4_ring rfl ⟨rfl, rfl⟩ (by decide +kernel) ⟨by decide, by decide⟩ rfl hl.1 rfl (Nat.le_of_ble_eq_true rfl) dX4_lastStation_10 ⟨by decide, by decide⟩ (fun r w1 H locs hp hw => ?_)
  obtain rfl := hp
  refine W.eq (g2 := F0 mt 13 ls [.int (fm ((nI nx) - 1) 16), .ref s0]) rfl ?_
  refine x_cvi (y := nI ((nx + 15) % 16)) (by exact fm16p _ hn) ?_
  refine xia X hw 1 rfl (j := ((nx + 15) % 16)) (rfl) (by omega) (by decide) dX4_lastStation_13 ?_
  refine hret _ _ _ _ _ _ dX4_lastStation_14 hw ?_
  exact ⟨rfl, rfl⟩

set_option maxHeartbeats 4000000 in
set_option maxRecDepth 100000 in
theorem c_X4_lastBefore (l : Launch) (G : GG) (g : Nat) (s0 : Nat) (b0 : Nat) (st : Nat → Int32) (be : Nat → Int32) (nx : Nat) (cn : Nat) (hn : nx < 16) : CT l G yX4_lastBefore wsX4_lastBefore ({ frames := 2, cells := 0, slots := 0, locals := 42 } : Room) [.ref g] [(g, .inr (2, [.ref s0, .ref b0, .int (nI nx), .int (nI cn)])), (s0, .inl (G.2.1, 16, .inl st)), (b0, .inl (G.2.1, 16, .inl be))] (fun r w => r = some (.int (be ((nx + 15) % 16))) ∧ w = [(g, .inr (2, [.ref s0, .ref b0, .int (nI nx), .int (nI cn)])), (s0, .inl (G.2.1, 16, .inl st)), (b0, .inl (G.2.1, 16, .inl be))]) 0 0 := by
  refine ct_i (cc := cX4_lastBefore) (maxL := 1) (by decide +kernel) rfl (Nat.le_of_ble_eq_true rfl) ?_
  intro p e s mt below meth c A Q X hw hret ls hl
  obtain ⟨hx, hb, -⟩ := id X
  have hl : lv_has ls 1 [(0, .ref g)] := hl
  refine lv_aload_n hx hb dX4_lastBefore_0 rfl (lv_at hl 0 rfl) ?_
  refine xg X hw (C := RX4) (T := TX4) (N := 4) (by decide +kernel) 0 rfl rfl 1 (by decide) rfl (by decide +kernel) rfl dX4_lastBefore_1 ?_
  refine lv_aload_n hx hb dX4_lastBefore_4 rfl (lv_at hl 0 rfl) ?_
  refine xg X hw (C := RX4) (T := TX4) (N := 4) (by decide +kernel) 0 rfl rfl 2 (by decide) rfl (by decide +kernel) rfl dX4_lastBefore_5 ?_
  refine lv_iconst (v := 1) hx hb dX4_lastBefore_8 (by decide) ?_
  refine lv_isub hx hb dX4_lastBefore_9 ?_
  refine xcP (n := 1) (As := [.int ((nI nx) - 1)]) (rest := [.ref b0]) X hw (c_X4_ring l G ((nI nx) - 1) ) gX4_lastBefore_X4_ring rfl ⟨rfl, rfl⟩ (by decide +kernel) ⟨by decide, by decide⟩ rfl hl.1 rfl (Nat.le_of_ble_eq_true rfl) dX4_lastBefore_10 ⟨by decide, by decide⟩ (fun r w1 H locs hp hw => ?_)
  obtain rfl := hp
  refine W.eq (g2 := F0 mt 13 ls [.int (fm ((nI nx) - 1) 16), .ref b0]) rfl ?_
  refine x_cvi (y := nI ((nx + 15) % 16)) (by exact fm16p _ hn) ?_
  refine xia X hw 2 rfl (j := ((nx + 15) % 16)) (rfl) (by omega) (by decide) dX4_lastBefore_13 ?_
  refine hret _ _ _ _ _ _ dX4_lastBefore_14 hw ?_
  exact ⟨rfl, rfl⟩

set_option maxHeartbeats 4000000 in
set_option maxRecDepth 100000 in
theorem c_X4_forgetLast (l : Launch) (G : GG) (g : Nat) (s0 : Nat) (b0 : Nat) (st : Nat → Int32) (be : Nat → Int32) (nx : Nat) (cn : Nat) (hn : nx < 16) (hc1 : 1 ≤ cn) (hc : cn ≤ 16) : CT l G yX4_forgetLast wsX4_forgetLast ({ frames := 2, cells := 0, slots := 0, locals := 42 } : Room) [.ref g] [(g, .inr (2, [.ref s0, .ref b0, .int (nI nx), .int (nI cn)])), (s0, .inl (G.2.1, 16, .inl st)), (b0, .inl (G.2.1, 16, .inl be))] (fun r w => r = none ∧ w = [(g, .inr (2, [.ref s0, .ref b0, .int (nI ((nx + 15) % 16)), .int (nI (cn - 1))])), (s0, .inl (G.2.1, 16, .inl st)), (b0, .inl (G.2.1, 16, .inl be))]) 0 0 := by
  refine ct_v (cc := cX4_forgetLast) (maxL := 1) (by decide +kernel) rfl (Nat.le_of_ble_eq_true rfl) ?_
  intro p e s mt below meth c A Q X hw hret ls hl
  obtain ⟨hx, hb, -⟩ := id X
  have hl : lv_has ls 1 [(0, .ref g)] := hl
  refine lv_aload_n hx hb dX4_forgetLast_0 rfl (lv_at hl 0 rfl) ?_
  refine xg X hw (C := RX4) (T := TX4) (N := 4) (by decide +kernel) 0 rfl rfl 3 (by decide) rfl (by decide +kernel) rfl dX4_forgetLast_1 ?_
  refine lv_if_ne (tgt := 8) hx hb dX4_forgetLast_4 (by decide) (fun c4 => ?_) (fun c4 => ?_)
  · skip
    refine lv_aload_n hx hb dX4_forgetLast_8 rfl (lv_at hl 0 rfl) ?_
    refine lv_aload_n hx hb dX4_forgetLast_9 rfl (lv_at hl 0 rfl) ?_
    refine xg X hw (C := RX4) (T := TX4) (N := 4) (by decide +kernel) 0 rfl rfl 2 (by decide) rfl (by decide +kernel) rfl dX4_forgetLast_10 ?_
    refine lv_iconst (v := 1) hx hb dX4_forgetLast_13 (by decide) ?_
    refine lv_isub hx hb dX4_forgetLast_14 ?_
    refine xcP (n := 1) (As := [.int ((nI nx) - 1)]) (rest := [.ref g]) X hw (c_X4_ring l G ((nI nx) - 1) ) gX4_forgetLast_X4_ring rfl ⟨rfl, rfl⟩ (by decide +kernel) ⟨by decide, by decide⟩ rfl hl.1 rfl (Nat.le_of_ble_eq_true rfl) dX4_forgetLast_15 ⟨by decide, by decide⟩ (fun r w1 H locs hp hw => ?_)
    obtain rfl := hp
    refine W.eq (g2 := F0 mt 18 ls [.int (fm ((nI nx) - 1) 16), .ref g]) rfl ?_
    refine x_cvi (y := nI ((nx + 15) % 16)) (by exact fm16p _ hn) ?_
    refine xp X hw (C := RX4) (ty := .int) (T := TX4) (N := 4) (by decide +kernel) tyX4 tyX4_ok nmX4 0 rfl rfl 2 (by decide) rfl (by decide +kernel) rfl (by decide +kernel) rfl rfl (Nat.le_of_ble_eq_true rfl) dX4_forgetLast_18 (ws' := [(g, .inr (2, [.ref s0, .ref b0, .int (nI ((nx + 15) % 16)), .int (nI cn)])), (s0, .inl (G.2.1, 16, .inl st)), (b0, .inl (G.2.1, 16, .inl be))]) rfl (fun H locs hw => ?_)
    refine lv_aload_n hx hb dX4_forgetLast_21 rfl (lv_at hl 0 rfl) ?_
    refine lv_dup hx hb dX4_forgetLast_22 rfl ?_
    refine xg X hw (C := RX4) (T := TX4) (N := 4) (by decide +kernel) 0 rfl rfl 3 (by decide) rfl (by decide +kernel) rfl dX4_forgetLast_23 ?_
    refine lv_iconst (v := 1) hx hb dX4_forgetLast_26 (by decide) ?_
    refine lv_isub hx hb dX4_forgetLast_27 ?_
    refine x_cvi (y := nI (cn - 1)) (by exact pk_sub (b := 1) hc1) ?_
    refine xp X hw (C := RX4) (ty := .int) (T := TX4) (N := 4) (by decide +kernel) tyX4 tyX4_ok nmX4 0 rfl rfl 3 (by decide) rfl (by decide +kernel) rfl (by decide +kernel) rfl rfl (Nat.le_of_ble_eq_true rfl) dX4_forgetLast_28 (ws' := [(g, .inr (2, [.ref s0, .ref b0, .int (nI ((nx + 15) % 16)), .int (nI (cn - 1))])), (s0, .inl (G.2.1, 16, .inl st)), (b0, .inl (G.2.1, 16, .inl be))]) rfl (fun H locs hw => ?_)
    refine hret _ _ _ _ _ dX4_forgetLast_31 hw ?_
    exact ⟨rfl, rfl⟩
  · exact absurd (i_eq (b := 0) (by omega) (by decide) c4) (by omega)

set_option maxHeartbeats 4000000 in
set_option maxRecDepth 100000 in
theorem c_X4_forgetAll (l : Launch) (G : GG) (g : Nat) (s0 : Nat) (b0 : Nat) (st : Nat → Int32) (be : Nat → Int32) (nx : Nat) (cn : Nat)  : CT l G yX4_forgetAll wsX4_forgetAll ({ frames := 0, cells := 0, slots := 0, locals := 0 } : Room) [.ref g] [(g, .inr (2, [.ref s0, .ref b0, .int (nI nx), .int (nI cn)])), (s0, .inl (G.2.1, 16, .inl st)), (b0, .inl (G.2.1, 16, .inl be))] (fun r w => r = none ∧ w = [(g, .inr (2, [.ref s0, .ref b0, .int (nI nx), .int (nI 0)])), (s0, .inl (G.2.1, 16, .inl st)), (b0, .inl (G.2.1, 16, .inl be))]) 0 0 := by
  refine ct_v (cc := cX4_forgetAll) (maxL := 1) (by decide +kernel) rfl (Nat.le_of_ble_eq_true rfl) ?_
  intro p e s mt below meth c A Q X hw hret ls hl
  obtain ⟨hx, hb, -⟩ := id X
  have hl : lv_has ls 1 [(0, .ref g)] := hl
  refine lv_aload_n hx hb dX4_forgetAll_0 rfl (lv_at hl 0 rfl) ?_
  refine lv_iconst (v := 0) hx hb dX4_forgetAll_1 (by decide) ?_
  refine x_cvi (y := nI 0) (by rfl) ?_
  refine xp X hw (C := RX4) (ty := .int) (T := TX4) (N := 4) (by decide +kernel) tyX4 tyX4_ok nmX4 0 rfl rfl 3 (by decide) rfl (by decide +kernel) rfl (by decide +kernel) rfl rfl (Nat.le_of_ble_eq_true rfl) dX4_forgetAll_2 (ws' := [(g, .inr (2, [.ref s0, .ref b0, .int (nI nx), .int (nI 0)])), (s0, .inl (G.2.1, 16, .inl st)), (b0, .inl (G.2.1, 16, .inl be))]) rfl (fun H locs hw => ?_)
  refine hret _ _ _ _ _ dX4_forgetAll_5 hw ?_
  exact ⟨rfl, rfl⟩

set_option maxHeartbeats 4000000 in
set_option maxRecDepth 100000 in
theorem c_X2_first (l : Launch) (G : GG) (f : Nat) (as : Nat) (sz : Nat) (nb : Nat) (tr : Nat) (fi : Nat)  : CT l G yX2_first wsX2_first ({ frames := 0, cells := 0, slots := 0, locals := 0 } : Room) [.ref f] [(f, .inr (1, [.int (nI as), .int (nI sz), .int (nI nb), .int (nI tr), .long (lN fi)]))] (fun r w => r = some (.long (lN fi)) ∧ w = [(f, .inr (1, [.int (nI as), .int (nI sz), .int (nI nb), .int (nI tr), .long (lN fi)]))]) 0 0 := by
  refine ct_l (cc := cX2_first) (maxL := 1) (by decide +kernel) rfl (Nat.le_of_ble_eq_true rfl) ?_
  intro p e s mt below meth c A Q X hw hret ls hl
  obtain ⟨hx, hb, -⟩ := id X
  have hl : lv_has ls 1 [(0, .ref f)] := hl
  refine lv_aload_n hx hb dX2_first_0 rfl (lv_at hl 0 rfl) ?_
  refine xg X hw (C := RX2) (T := TX2) (N := 5) (by decide +kernel) 0 rfl rfl 4 (by decide) rfl (by decide +kernel) rfl dX2_first_1 ?_
  refine hret _ _ _ _ _ _ dX2_first_4 hw ?_
  exact ⟨rfl, rfl⟩

set_option maxHeartbeats 4000000 in
set_option maxRecDepth 100000 in
theorem c_X2_add (l : Launch) (G : GG) (f : Nat) (as : Nat) (sz : Nat) (nb : Nat) (tr : Nat) (fi : Nat) (x : Nat)  : CT l G yX2_add wsX2_add ({ frames := 0, cells := 0, slots := 0, locals := 0 } : Room) [.ref f, .long (lN x)] [(f, .inr (1, [.int (nI as), .int (nI sz), .int (nI nb), .int (nI tr), .long (lN fi)]))] (fun r w => r = none ∧ w = [(f, .inr (1, [.int (nI as), .int (nI sz), .int (nI (nb + 1)), .int (nI tr), .long (lN (if nI nb = 0 then x else fi))]))]) 0 0 := by
  refine ct_v (cc := cX2_add) (maxL := 3) (by decide +kernel) rfl (Nat.le_of_ble_eq_true rfl) ?_
  intro p e s mt below meth c A Q X hw hret ls hl
  obtain ⟨hx, hb, -⟩ := id X
  have hl : lv_has ls 3 [(0, .ref f), (1, .long (lN x))] := hl
  refine lv_aload_n hx hb dX2_add_0 rfl (lv_at hl 0 rfl) ?_
  refine xg X hw (C := RX2) (T := TX2) (N := 5) (by decide +kernel) 0 rfl rfl 2 (by decide) rfl (by decide +kernel) rfl dX2_add_1 ?_
  refine lv_if_ne (tgt := 12) hx hb dX2_add_4 (by decide) (fun c4 => ?_) (fun c4 => ?_)
  · refine lv_aload_n hx hb dX2_add_12 rfl (lv_at hl 0 rfl) ?_
    refine lv_dup hx hb dX2_add_13 rfl ?_
    refine xg X hw (C := RX2) (T := TX2) (N := 5) (by decide +kernel) 0 rfl rfl 2 (by decide) rfl (by decide +kernel) rfl dX2_add_14 ?_
    refine lv_iconst (v := 1) hx hb dX2_add_17 (by decide) ?_
    refine lv_iadd hx hb dX2_add_18 ?_
    refine x_cvi (y := nI (nb + 1)) (by exact nI_1 _) ?_
    refine xp X hw (C := RX2) (ty := .int) (T := TX2) (N := 5) (by decide +kernel) tyX2 tyX2_ok nmX2 0 rfl rfl 2 (by decide) rfl (by decide +kernel) rfl (by decide +kernel) rfl rfl (Nat.le_of_ble_eq_true rfl) dX2_add_19 (ws' := [(f, .inr (1, [.int (nI as), .int (nI sz), .int (nI (nb + 1)), .int (nI tr), .long (lN fi)]))]) rfl (fun H locs hw => ?_)
    refine hret _ _ _ _ _ dX2_add_22 hw ?_
    exact ⟨rfl, by rw [if_neg c4]⟩
  · refine lv_aload_n hx hb dX2_add_7 rfl (lv_at hl 0 rfl) ?_
    refine lv_lload_n hx hb dX2_add_8 rfl (lv_at hl 1 rfl) ?_
    refine xp X hw (C := RX2) (ty := .long) (T := TX2) (N := 5) (by decide +kernel) tyX2 tyX2_ok nmX2 0 rfl rfl 4 (by decide) rfl (by decide +kernel) rfl (by decide +kernel) rfl rfl (Nat.le_of_ble_eq_true rfl) dX2_add_9 (ws' := [(f, .inr (1, [.int (nI as), .int (nI sz), .int (nI nb), .int (nI tr), .long (lN x)]))]) rfl (fun H locs hw => ?_)
    refine lv_aload_n hx hb dX2_add_12 rfl (lv_at hl 0 rfl) ?_
    refine lv_dup hx hb dX2_add_13 rfl ?_
    refine xg X hw (C := RX2) (T := TX2) (N := 5) (by decide +kernel) 0 rfl rfl 2 (by decide) rfl (by decide +kernel) rfl dX2_add_14 ?_
    refine lv_iconst (v := 1) hx hb dX2_add_17 (by decide) ?_
    refine lv_iadd hx hb dX2_add_18 ?_
    refine x_cvi (y := nI (nb + 1)) (by exact nI_1 _) ?_
    refine xp X hw (C := RX2) (ty := .int) (T := TX2) (N := 5) (by decide +kernel) tyX2 tyX2_ok nmX2 0 rfl rfl 2 (by decide) rfl (by decide +kernel) rfl (by decide +kernel) rfl rfl (Nat.le_of_ble_eq_true rfl) dX2_add_19 (ws' := [(f, .inr (1, [.int (nI as), .int (nI sz), .int (nI (nb + 1)), .int (nI tr), .long (lN x)]))]) rfl (fun H locs hw => ?_)
    refine hret _ _ _ _ _ dX2_add_22 hw ?_
    exact ⟨rfl, by rw [if_pos c4]⟩

set_option maxHeartbeats 4000000 in
set_option maxRecDepth 100000 in
theorem c_X2_answer (l : Launch) (G : GG) (f : Nat) (as : Nat) (sz : Nat) (nb : Nat) (tr : Nat) (fi : Nat) (x : Int32) (hfi : fi < 2 ^ 61) : CT l G yX2_answer wsX2_answer ({ frames := 4, cells := 0, slots := 0, locals := 86 } : Room) [.ref f, .int x] [(f, .inr (1, [.int (nI as), .int (nI sz), .int (nI nb), .int (nI tr), .long (lN fi)]))] (fun r w => r = some (.int (fnd (nI sz) (nI nb) (nI tr) fi x)) ∧ w = [(f, .inr (1, [.int (nI as), .int (nI sz), .int (nI nb), .int (nI tr), .long (lN fi)]))]) 0 0 := by
  refine ct_i (cc := cX2_answer) (maxL := 2) (by decide +kernel) rfl (Nat.le_of_ble_eq_true rfl) ?_
  intro p e s mt below meth c A Q X hw hret ls hl
  obtain ⟨hx, hb, -⟩ := id X
  have hl : lv_has ls 2 [(0, .ref f), (1, .int x)] := hl
  refine lv_iload_n hx hb dX2_answer_0 rfl (lv_at hl 1 rfl) ?_
  by_cases ht1_0 : x = 0
  · refine lv_tableIn (tgt := 28) hx hb dX2_answer_1 (by rw [ht1_0]; decide) (by rw [ht1_0]; decide) (off := 27) (by rw [ht1_0]; rfl) (by decide) ?_
    refine lv_aload_n hx hb dX2_answer_28 rfl (lv_at hl 0 rfl) ?_
    refine xg X hw (C := RX2) (T := TX2) (N := 5) (by decide +kernel) 0 rfl rfl 1 (by decide) rfl (by decide +kernel) rfl dX2_answer_29 ?_
    refine hret _ _ _ _ _ _ dX2_answer_32 hw ?_
    exact ⟨congrArg (fun z => some (Value.int z)) (by unfold fnd; rw [if_pos ht1_0]), rfl⟩
  by_cases ht1_1 : x = 1
  · refine lv_tableIn (tgt := 33) hx hb dX2_answer_1 (by rw [ht1_1]; decide) (by rw [ht1_1]; decide) (off := 32) (by rw [ht1_1]; rfl) (by decide) ?_
    refine lv_aload_n hx hb dX2_answer_33 rfl (lv_at hl 0 rfl) ?_
    refine xg X hw (C := RX2) (T := TX2) (N := 5) (by decide +kernel) 0 rfl rfl 2 (by decide) rfl (by decide +kernel) rfl dX2_answer_34 ?_
    refine hret _ _ _ _ _ _ dX2_answer_37 hw ?_
    exact ⟨congrArg (fun z => some (Value.int z)) (by unfold fnd; rw [if_neg ht1_0, if_pos ht1_1]), rfl⟩
  by_cases ht1_2 : x = 2
  · refine lv_tableIn (tgt := 38) hx hb dX2_answer_1 (by rw [ht1_2]; decide) (by rw [ht1_2]; decide) (off := 37) (by rw [ht1_2]; rfl) (by decide) ?_
    refine lv_aload_n hx hb dX2_answer_38 rfl (lv_at hl 0 rfl) ?_
    refine xg X hw (C := RX2) (T := TX2) (N := 5) (by decide +kernel) 0 rfl rfl 3 (by decide) rfl (by decide +kernel) rfl dX2_answer_39 ?_
    refine hret _ _ _ _ _ _ dX2_answer_42 hw ?_
    exact ⟨congrArg (fun z => some (Value.int z)) (by unfold fnd; rw [if_neg ht1_0, if_neg ht1_1, if_pos ht1_2]), rfl⟩
  refine lv_tableOut (tgt := 43) hx hb dX2_answer_1 (tab_out3 x ht1_0 ht1_1 ht1_2) (by decide) ?_
  refine lv_aload_n hx hb dX2_answer_43 rfl (lv_at hl 0 rfl) ?_
  refine xg X hw (C := RX2) (T := TX2) (N := 5) (by decide +kernel) 0 rfl rfl 4 (by decide) rfl (by decide +kernel) rfl dX2_answer_44 ?_
  refine lv_iload_n hx hb dX2_answer_47 rfl (lv_at hl 1 rfl) ?_
  refine lv_bipush (v := 10) hx hb dX2_answer_48 (by decide) ?_
  refine lv_isub hx hb dX2_answer_50 ?_
  refine xcP (n := 2) (As := [.long (lN fi), .int (x - 10)]) (rest := []) X hw (c_X3_markAt l G fi (x - 10) hfi) gX2_answer_X3_markAt rfl ⟨rfl, rfl⟩ (by decide +kernel) ⟨by decide, by decide⟩ rfl hl.1 rfl (Nat.le_of_ble_eq_true rfl) dX2_answer_51 ⟨by decide, by decide⟩ (fun r w1 H locs hp hw => ?_)
  obtain rfl := hp
  refine W.eq (g2 := F0 mt 54 ls [.int (mkA fi (x - 10))]) rfl ?_
  refine hret _ _ _ _ _ _ dX2_answer_54 hw ?_
  exact ⟨congrArg (fun z => some (Value.int z)) (by unfold fnd; rw [if_neg ht1_0, if_neg ht1_1, if_neg ht1_2]), rfl⟩
