set_option maxHeartbeats 4000000 in
set_option maxRecDepth 100000 in
theorem c_J9_floorMod_7cf53 (l : Launch) (G : GG) (x : Int32) (y : Int32) (hy : ¬ y = 0) : CT l G yJ9_floorMod_7cf53 wsJ9_floorMod_7cf53 ({ frames := 0, cells := 0, slots := 0, locals := 0 } : Room) [.int x, .int y] [] (fun r _ => r = some (.int (fm x y))) 0 0 := by
  refine ct_iF (cc := cJ9_floorMod_7cf53) (maxL := 3) (by decide +kernel) rfl (Nat.le_of_ble_eq_true rfl) ?_
  intro p e s mt below meth c A Q X hw hret ls hl
  obtain ⟨hx, hb, -⟩ := id X
  have hl : lv_has ls 3 [(0, .int x), (1, .int y)] := hl
  refine lv_iload_n hx hb dJ9_floorMod_7cf53_0 rfl (lv_at hl 0 rfl) ?_
  refine lv_iload_n hx hb dJ9_floorMod_7cf53_1 rfl (lv_at hl 1 rfl) ?_
  refine lv_irem hx hb dJ9_floorMod_7cf53_2 (hy) ?_
  refine lv_istore_n (lv' := [(2, .int (x - x / y * y)), (0, .int x), (1, .int y)]) hx hb dJ9_floorMod_7cf53_3 rfl hl (by decide) rfl (fun ls hl => ?_)
  refine lv_iload_n hx hb dJ9_floorMod_7cf53_4 rfl (lv_at hl 1 rfl) ?_
  refine lv_iload_n hx hb dJ9_floorMod_7cf53_5 rfl (lv_at hl 2 rfl) ?_
  refine lv_ixor hx hb dJ9_floorMod_7cf53_6 ?_
  refine lv_if_ge (tgt := 18) hx hb dJ9_floorMod_7cf53_7 (by decide) (fun c7 => ?_) (fun c7 => ?_)
  · refine lv_iload_n hx hb dJ9_floorMod_7cf53_18 rfl (lv_at hl 0 rfl) ?_
    refine hret _ _ _ _ _ _ dJ9_floorMod_7cf53_19 hw ?_
    exact congrArg (fun z => some (Value.int z)) (by simp only [fm]; grind)
  · refine lv_iload_n hx hb dJ9_floorMod_7cf53_10 rfl (lv_at hl 0 rfl) ?_
    refine lv_if_eq (tgt := 18) hx hb dJ9_floorMod_7cf53_11 (by decide) (fun c11 => ?_) (fun c11 => ?_)
    · refine lv_iload_n hx hb dJ9_floorMod_7cf53_18 rfl (lv_at hl 0 rfl) ?_
      refine hret _ _ _ _ _ _ dJ9_floorMod_7cf53_19 hw ?_
      exact congrArg (fun z => some (Value.int z)) (by simp only [fm]; grind)
    · refine lv_iload_n hx hb dJ9_floorMod_7cf53_14 rfl (lv_at hl 0 rfl) ?_
      refine lv_iload_n hx hb dJ9_floorMod_7cf53_15 rfl (lv_at hl 2 rfl) ?_
      refine lv_iadd hx hb dJ9_floorMod_7cf53_16 ?_
      refine hret _ _ _ _ _ _ dJ9_floorMod_7cf53_17 hw ?_
      exact congrArg (fun z => some (Value.int z)) (by simp only [fm]; grind)

set_option maxHeartbeats 4000000 in
set_option maxRecDepth 100000 in
theorem c_J6_bitCount_0f7a4 (l : Launch) (G : GG) (n : Nat) (hn : n < 2 ^ 32) : CT l G yJ6_bitCount_0f7a4 wsJ6_bitCount_0f7a4 ({ frames := 0, cells := 0, slots := 0, locals := 0 } : Room) [.int (nI n)] [] (fun r _ => r = some (.int (nI (pcN 32 n)))) 0 0 := by
  refine ct_i (cc := cJ6_bitCount_0f7a4) (maxL := 1) (by decide +kernel) rfl (Nat.le_of_ble_eq_true rfl) ?_
  intro p e s mt below meth c A Q X hw hret ls hl
  obtain ⟨hx, hb, -⟩ := id X
  have hl : lv_has ls 1 [(0, .int (nI n))] := hl
  obtain ⟨c0, c1, c2, c3, h0, h1, h2, h3, hcnt, hle, hall⟩ := pc_32 hn
  obtain ⟨aq, ha⟩ : ∃ z, z = n - (n / 2 &&& 1431655765) := ⟨_, rfl⟩
  obtain ⟨bq, hb2⟩ : ∃ z, z = (aq &&& 858993459) + (aq / 4 &&& 858993459) := ⟨_, rfl⟩
  have hall := hall aq bq ha hb2
  obtain ⟨cq, hc⟩ : ∃ z, z = ((bq + bq / 16) &&& 252645135) := ⟨_, rfl⟩
  obtain ⟨dq, hd⟩ : ∃ z, z = cq + cq / 256 := ⟨_, rfl⟩
  obtain ⟨eq, he⟩ : ∃ z, z = dq + dq / 65536 := ⟨_, rfl⟩
  have hfold := pc_fold32 h0 h1 h2 h3 (hc.trans hall.2.2) hd he
  refine lv_iload_n hx hb dJ6_bitCount_0f7a4_0 rfl (lv_at hl 0 rfl) ?_
  refine lv_iload_n hx hb dJ6_bitCount_0f7a4_1 rfl (lv_at hl 0 rfl) ?_
  refine lv_iconst (v := 1) hx hb dJ6_bitCount_0f7a4_2 (by decide) ?_
  refine lv_iushr (v := nI (n / 2)) hx hb dJ6_bitCount_0f7a4_3 (by exact pk_ushrN hn 1 1 (by decide)) ?_
  refine xcw X (v := 1431655765) (by decide +kernel) dJ6_bitCount_0f7a4_4 ?_
  refine lv_iand hx hb dJ6_bitCount_0f7a4_7 ?_
  refine x_cvi (y := nI (n / 2 &&& 1431655765)) (by exact fa_and _ _) ?_
  refine lv_isub hx hb dJ6_bitCount_0f7a4_8 ?_
  refine x_cvi (y := nI aq) (by rw [ha]; exact pk_sub hle) ?_
  refine lv_istore_n (lv' := [(0, .int (nI aq))]) hx hb dJ6_bitCount_0f7a4_9 rfl hl (by decide) rfl (fun ls hl => ?_)
  refine lv_iload_n hx hb dJ6_bitCount_0f7a4_10 rfl (lv_at hl 0 rfl) ?_
  refine xcw X (v := 858993459) (by decide +kernel) dJ6_bitCount_0f7a4_11 ?_
  refine lv_iand hx hb dJ6_bitCount_0f7a4_14 ?_
  refine x_cvi (y := nI (aq &&& 858993459)) (by exact fa_and _ _) ?_
  refine lv_iload_n hx hb dJ6_bitCount_0f7a4_15 rfl (lv_at hl 0 rfl) ?_
  refine lv_iconst (v := 2) hx hb dJ6_bitCount_0f7a4_16 (by decide) ?_
  refine lv_iushr (v := nI (aq / 4)) hx hb dJ6_bitCount_0f7a4_17 (by exact pk_ushrN hall.1 2 2 (by decide)) ?_
  refine xcw X (v := 858993459) (by decide +kernel) dJ6_bitCount_0f7a4_18 ?_
  refine lv_iand hx hb dJ6_bitCount_0f7a4_21 ?_
  refine x_cvi (y := nI (aq / 4 &&& 858993459)) (by exact fa_and _ _) ?_
  refine lv_iadd hx hb dJ6_bitCount_0f7a4_22 ?_
  refine x_cvi (y := nI bq) (by rw [hb2]; exact nI_add _ _) ?_
  refine lv_istore_n (lv' := [(0, .int (nI bq))]) hx hb dJ6_bitCount_0f7a4_23 rfl hl (by decide) rfl (fun ls hl => ?_)
  refine lv_iload_n hx hb dJ6_bitCount_0f7a4_24 rfl (lv_at hl 0 rfl) ?_
  refine lv_iload_n hx hb dJ6_bitCount_0f7a4_25 rfl (lv_at hl 0 rfl) ?_
  refine lv_iconst (v := 4) hx hb dJ6_bitCount_0f7a4_26 (by decide) ?_
  refine lv_iushr (v := nI (bq / 16)) hx hb dJ6_bitCount_0f7a4_27 (by exact pk_ushrN (Nat.lt_trans hall.2.1 (by decide)) 4 4 (by decide)) ?_
  refine lv_iadd hx hb dJ6_bitCount_0f7a4_28 ?_
  refine x_cvi (y := nI (bq + bq / 16)) (by exact nI_add _ _) ?_
  refine xcw X (v := 252645135) (by decide +kernel) dJ6_bitCount_0f7a4_29 ?_
  refine lv_iand hx hb dJ6_bitCount_0f7a4_32 ?_
  refine x_cvi (y := nI cq) (by rw [hc]; exact fa_and _ _) ?_
  refine lv_istore_n (lv' := [(0, .int (nI cq))]) hx hb dJ6_bitCount_0f7a4_33 rfl hl (by decide) rfl (fun ls hl => ?_)
  refine lv_iload_n hx hb dJ6_bitCount_0f7a4_34 rfl (lv_at hl 0 rfl) ?_
  refine lv_iload_n hx hb dJ6_bitCount_0f7a4_35 rfl (lv_at hl 0 rfl) ?_
  refine lv_bipush (v := 8) hx hb dJ6_bitCount_0f7a4_36 (by decide) ?_
  refine lv_iushr (v := nI (cq / 256)) hx hb dJ6_bitCount_0f7a4_38 (by exact pk_ushrN (Nat.lt_trans hfold.1 (by decide)) 8 8 (by decide)) ?_
  refine lv_iadd hx hb dJ6_bitCount_0f7a4_39 ?_
  refine x_cvi (y := nI dq) (by rw [hd]; exact nI_add _ _) ?_
  refine lv_istore_n (lv' := [(0, .int (nI dq))]) hx hb dJ6_bitCount_0f7a4_40 rfl hl (by decide) rfl (fun ls hl => ?_)
  refine lv_iload_n hx hb dJ6_bitCount_0f7a4_41 rfl (lv_at hl 0 rfl) ?_
  refine lv_iload_n hx hb dJ6_bitCount_0f7a4_42 rfl (lv_at hl 0 rfl) ?_
  refine lv_bipush (v := 16) hx hb dJ6_bitCount_0f7a4_43 (by decide) ?_
  refine lv_iushr (v := nI (dq / 65536)) hx hb dJ6_bitCount_0f7a4_45 (by exact pk_ushrN (Nat.lt_trans hfold.2.1 (by decide)) 16 16 (by decide)) ?_
  refine lv_iadd hx hb dJ6_bitCount_0f7a4_46 ?_
  refine x_cvi (y := nI eq) (by rw [he]; exact nI_add _ _) ?_
  refine lv_istore_n (lv' := [(0, .int (nI eq))]) hx hb dJ6_bitCount_0f7a4_47 rfl hl (by decide) rfl (fun ls hl => ?_)
  refine lv_iload_n hx hb dJ6_bitCount_0f7a4_48 rfl (lv_at hl 0 rfl) ?_
  refine lv_bipush (v := 63) hx hb dJ6_bitCount_0f7a4_49 (by decide) ?_
  refine lv_iand hx hb dJ6_bitCount_0f7a4_51 ?_
  refine x_cvi (y := nI (eq % 64)) (by exact fa_mask eq 6) ?_
  refine hret _ _ _ _ _ _ dJ6_bitCount_0f7a4_52 hw ?_
  exact congrArg (fun z => some (Value.int z)) (by rw [hfold.2.2, hcnt])

set_option maxHeartbeats 4000000 in
set_option maxRecDepth 100000 in
theorem c_X1_line (l : Launch) (G : GG) (d : Nat) (e0 : Nat) (k0 : Nat) (m : Nat) (er : Nat → Int32) (sk : Nat → Int32)  : CT l G yX1_line wsX1_line ({ frames := 0, cells := 0, slots := 0, locals := 0 } : Room) [.ref d] [(d, .inr (0, [.long (lN m), .ref e0, .ref k0])), (e0, .inl (G.2.1, 61, .inl er)), (k0, .inl (G.2.1, 61, .inl sk))] (fun r w => r = some (.long (lN m)) ∧ w = [(d, .inr (0, [.long (lN m), .ref e0, .ref k0])), (e0, .inl (G.2.1, 61, .inl er)), (k0, .inl (G.2.1, 61, .inl sk))]) 0 0 := by
  refine ct_l (cc := cX1_line) (maxL := 1) (by decide +kernel) rfl (Nat.le_of_ble_eq_true rfl) ?_
  intro p e s mt below meth c A Q X hw hret ls hl
  obtain ⟨hx, hb, -⟩ := id X
  have hl : lv_has ls 1 [(0, .ref d)] := hl
  refine lv_aload_n hx hb dX1_line_0 rfl (lv_at hl 0 rfl) ?_
  refine xg X hw (C := RX1) (T := TX1) (N := 3) (by decide +kernel) 0 rfl rfl 0 (by decide) rfl (by decide +kernel) rfl dX1_line_1 ?_
  refine hret _ _ _ _ _ _ dX1_line_4 hw ?_
  exact ⟨rfl, rfl⟩

set_option maxHeartbeats 4000000 in
set_option maxRecDepth 100000 in
theorem c_X1_count (l : Launch) (G : GG) (d : Nat) (e0 : Nat) (k0 : Nat) (m : Nat) (er : Nat → Int32) (sk : Nat → Int32) (hm : m < 2 ^ 61) : CT l G yX1_count wsX1_count ({ frames := 1, cells := 0, slots := 0, locals := 21 } : Room) [.ref d] [(d, .inr (0, [.long (lN m), .ref e0, .ref k0])), (e0, .inl (G.2.1, 61, .inl er)), (k0, .inl (G.2.1, 61, .inl sk))] (fun r w => r = some (.int (nI (pcN 64 m))) ∧ w = [(d, .inr (0, [.long (lN m), .ref e0, .ref k0])), (e0, .inl (G.2.1, 61, .inl er)), (k0, .inl (G.2.1, 61, .inl sk))]) 0 0 := by
  refine ct_i (cc := cX1_count) (maxL := 1) (by decide +kernel) rfl (Nat.le_of_ble_eq_true rfl) ?_
  intro p e s mt below meth c A Q X hw hret ls hl
  obtain ⟨hx, hb, -⟩ := id X
  have hl : lv_has ls 1 [(0, .ref d)] := hl
  refine lv_aload_n hx hb dX1_count_0 rfl (lv_at hl 0 rfl) ?_
  refine xg X hw (C := RX1) (T := TX1) (N := 3) (by decide +kernel) 0 rfl rfl 0 (by decide) rfl (by decide +kernel) rfl dX1_count_1 ?_
  refine xcP (n := 1) (As := [.long (lN m)]) (rest := []) X hw (c_J13_bitCount_95d88 l G m (Nat.lt_trans hm (by decide))) gX1_count_J13_bitCount_95d88 rfl ⟨rfl, rfl⟩ (by decide +kernel) ⟨by decide, by decide⟩ rfl hl.1 rfl (Nat.le_of_ble_eq_true rfl) dX1_count_4 ⟨by decide, by decide⟩ (fun r w1 H locs hp hw => ?_)
  obtain rfl := hp
  refine W.eq (g2 := F0 mt 7 ls [.int (nI (pcN 64 m))]) rfl ?_
  refine hret _ _ _ _ _ _ dX1_count_7 hw ?_
  exact ⟨rfl, rfl⟩

set_option maxHeartbeats 4000000 in
set_option maxRecDepth 100000 in
theorem c_X1_standsAt (l : Launch) (G : GG) (d : Nat) (e0 : Nat) (k0 : Nat) (m : Nat) (er : Nat → Int32) (sk : Nat → Int32) (x : Int32) (hm : m < 2 ^ 61) : CT l G yX1_standsAt wsX1_standsAt ({ frames := 3, cells := 0, slots := 0, locals := 62 } : Room) [.ref d, .int x] [(d, .inr (0, [.long (lN m), .ref e0, .ref k0])), (e0, .inl (G.2.1, 61, .inl er)), (k0, .inl (G.2.1, 61, .inl sk))] (fun r w => r = some (.int (bi (stn m x))) ∧ w = [(d, .inr (0, [.long (lN m), .ref e0, .ref k0])), (e0, .inl (G.2.1, 61, .inl er)), (k0, .inl (G.2.1, 61, .inl sk))]) 0 0 := by
  refine ct_z (cc := cX1_standsAt) (maxL := 2) (by decide +kernel) rfl (Nat.le_of_ble_eq_true rfl) ?_
  intro p e s mt below meth c A Q X hw hret ls hl
  obtain ⟨hx, hb, -⟩ := id X
  have hl : lv_has ls 2 [(0, .ref d), (1, .int x)] := hl
  refine lv_aload_n hx hb dX1_standsAt_0 rfl (lv_at hl 0 rfl) ?_
  refine xg X hw (C := RX1) (T := TX1) (N := 3) (by decide +kernel) 0 rfl rfl 0 (by decide) rfl (by decide +kernel) rfl dX1_standsAt_1 ?_
  refine lv_iload_n hx hb dX1_standsAt_4 rfl (lv_at hl 1 rfl) ?_
  refine xcP (n := 2) (As := [.long (lN m), .int x]) (rest := []) X hw (c_X3_has l G m x hm) gX1_standsAt_X3_has rfl ⟨rfl, rfl⟩ (by decide +kernel) ⟨by decide, by decide⟩ rfl hl.1 rfl (Nat.le_of_ble_eq_true rfl) dX1_standsAt_5 ⟨by decide, by decide⟩ (fun r w1 H locs hp hw => ?_)
  obtain rfl := hp
  refine W.eq (g2 := F0 mt 8 ls [.int (bi (stn m x))]) rfl ?_
  refine hret _ _ _ _ _ _ dX1_standsAt_8 hw (by first | exact bi_nar _ | decide) ?_
  exact ⟨rfl, rfl⟩

set_option maxHeartbeats 4000000 in
set_option maxRecDepth 100000 in
theorem c_X1_errorAt (l : Launch) (G : GG) (d : Nat) (e0 : Nat) (k0 : Nat) (m : Nat) (er : Nat → Int32) (sk : Nat → Int32) (x : Int32)  : CT l G yX1_errorAt wsX1_errorAt ({ frames := 1, cells := 0, slots := 0, locals := 20 } : Room) [.ref d, .int x] [(d, .inr (0, [.long (lN m), .ref e0, .ref k0])), (e0, .inl (G.2.1, 61, .inl er)), (k0, .inl (G.2.1, 61, .inl sk))] (fun r w => r = some (.int (erX er x)) ∧ w = [(d, .inr (0, [.long (lN m), .ref e0, .ref k0])), (e0, .inl (G.2.1, 61, .inl er)), (k0, .inl (G.2.1, 61, .inl sk))]) 0 0 := by
  refine ct_i (cc := cX1_errorAt) (maxL := 2) (by decide +kernel) rfl (Nat.le_of_ble_eq_true rfl) ?_
  intro p e s mt below meth c A Q X hw hret ls hl
  obtain ⟨hx, hb, -⟩ := id X
  have hl : lv_has ls 2 [(0, .ref d), (1, .int x)] := hl
  refine lv_iload_n hx hb dX1_errorAt_0 rfl (lv_at hl 1 rfl) ?_
  refine xcPN (n := 1) (As := [.int x]) (rest := []) X hw (c_X7_isStation l G x ) (goodIn_p _ [4] rfl (by decide +kernel)) (host := RX7) (by decide +kernel) (by decide +kernel) (by decide +kernel) rfl ⟨rfl, rfl⟩ (by decide +kernel) ⟨by decide, by decide⟩ rfl hl.1 rfl (Nat.le_of_ble_eq_true rfl) dX1_errorAt_1 ⟨by decide, by decide⟩ (fun r w1 H locs hp hw => ?_)
  obtain rfl := hp
  refine W.eq (g2 := F0 mt 4 ls [.int (bi (inS x))]) rfl ?_
  refine lv_if_eq (tgt := 16) hx hb dX1_errorAt_4 (by decide) (fun c4 => ?_) (fun c4 => ?_)
  · have hi := bi_f c4
    refine lv_bipush (v := (-6)) hx hb dX1_errorAt_16 (by decide) ?_
    refine hret _ _ _ _ _ _ dX1_errorAt_18 hw ?_
    exact ⟨congrArg (fun z => some (Value.int z)) (by unfold erX; rw [if_neg (by rw [hi]; decide)]), rfl⟩
  · have hi := bi_t c4
    obtain ⟨j, hj, hxj⟩ := inS_of hi
    refine lv_aload_n hx hb dX1_errorAt_7 rfl (lv_at hl 0 rfl) ?_
    refine xg X hw (C := RX1) (T := TX1) (N := 3) (by decide +kernel) 0 rfl rfl 1 (by decide) rfl (by decide +kernel) rfl dX1_errorAt_8 ?_
    refine lv_iload_n hx hb dX1_errorAt_11 rfl (lv_at hl 1 rfl) ?_
    refine xia X hw 1 rfl (j := j) (hxj) (by omega) (by decide) dX1_errorAt_12 ?_
    refine lv_goto (tgt := 18) hx hb dX1_errorAt_13 (by decide) ?_
    refine hret _ _ _ _ _ _ dX1_errorAt_18 hw ?_
    exact ⟨congrArg (fun z => some (Value.int z)) (by rw [hxj, erX_nI hj]), rfl⟩

set_option maxHeartbeats 4000000 in
set_option maxRecDepth 100000 in
theorem c_X1_skyOf (l : Launch) (G : GG) (d : Nat) (e0 : Nat) (k0 : Nat) (m : Nat) (er : Nat → Int32) (sk : Nat → Int32) (x : Int32)  : CT l G yX1_skyOf wsX1_skyOf ({ frames := 1, cells := 0, slots := 0, locals := 20 } : Room) [.ref d, .int x] [(d, .inr (0, [.long (lN m), .ref e0, .ref k0])), (e0, .inl (G.2.1, 61, .inl er)), (k0, .inl (G.2.1, 61, .inl sk))] (fun r w => r = some (.int (skX sk x)) ∧ w = [(d, .inr (0, [.long (lN m), .ref e0, .ref k0])), (e0, .inl (G.2.1, 61, .inl er)), (k0, .inl (G.2.1, 61, .inl sk))]) 0 0 := by
  refine ct_i (cc := cX1_skyOf) (maxL := 2) (by decide +kernel) rfl (Nat.le_of_ble_eq_true rfl) ?_
  intro p e s mt below meth c A Q X hw hret ls hl
  obtain ⟨hx, hb, -⟩ := id X
  have hl : lv_has ls 2 [(0, .ref d), (1, .int x)] := hl
  refine lv_iload_n hx hb dX1_skyOf_0 rfl (lv_at hl 1 rfl) ?_
  refine xcPN (n := 1) (As := [.int x]) (rest := []) X hw (c_X7_isLength l G x ) (goodIn_p _ [4] rfl (by decide +kernel)) (host := RX7) (by decide +kernel) (by decide +kernel) (by decide +kernel) rfl ⟨rfl, rfl⟩ (by decide +kernel) ⟨by decide, by decide⟩ rfl hl.1 rfl (Nat.le_of_ble_eq_true rfl) dX1_skyOf_1 ⟨by decide, by decide⟩ (fun r w1 H locs hp hw => ?_)
  obtain rfl := hp
  refine W.eq (g2 := F0 mt 4 ls [.int (bi (inL x))]) rfl ?_
  refine lv_if_eq (tgt := 16) hx hb dX1_skyOf_4 (by decide) (fun c4 => ?_) (fun c4 => ?_)
  · have hi := bi_f c4
    refine lv_iconst (v := 0) hx hb dX1_skyOf_16 (by decide) ?_
    refine hret _ _ _ _ _ _ dX1_skyOf_17 hw ?_
    exact ⟨congrArg (fun z => some (Value.int z)) (by unfold skX; rw [if_neg (by rw [hi]; decide)]), rfl⟩
  · have hi := bi_t c4
    obtain ⟨j, hj1, hj, hxj⟩ := inL_of hi
    refine lv_aload_n hx hb dX1_skyOf_7 rfl (lv_at hl 0 rfl) ?_
    refine xg X hw (C := RX1) (T := TX1) (N := 3) (by decide +kernel) 0 rfl rfl 2 (by decide) rfl (by decide +kernel) rfl dX1_skyOf_8 ?_
    refine lv_iload_n hx hb dX1_skyOf_11 rfl (lv_at hl 1 rfl) ?_
    refine xia X hw 2 rfl (j := j) (hxj) (by omega) (by decide) dX1_skyOf_12 ?_
    refine lv_goto (tgt := 17) hx hb dX1_skyOf_13 (by decide) ?_
    refine hret _ _ _ _ _ _ dX1_skyOf_17 hw ?_
    exact ⟨congrArg (fun z => some (Value.int z)) (by rw [hxj, skX_nI hj1 hj]), rfl⟩

set_option maxHeartbeats 4000000 in
set_option maxRecDepth 100000 in
theorem c_X1_tellSky (l : Launch) (G : GG) (d : Nat) (e0 : Nat) (k0 : Nat) (m : Nat) (er : Nat → Int32) (sk : Nat → Int32) (x : Nat) (v : Int32) (hx1 : 1 ≤ x) (hx2 : x ≤ 60) : CT l G yX1_tellSky wsX1_tellSky ({ frames := 1, cells := 0, slots := 0, locals := 20 } : Room) [.ref d, .int (nI x), .int v] [(d, .inr (0, [.long (lN m), .ref e0, .ref k0])), (e0, .inl (G.2.1, 61, .inl er)), (k0, .inl (G.2.1, 61, .inl sk))] (fun r w => r = none ∧ w = [(d, .inr (0, [.long (lN m), .ref e0, .ref k0])), (e0, .inl (G.2.1, 61, .inl er)), (k0, .inl (G.2.1, 61, .inl (upd sk x v)))]) 0 0 := by
  refine ct_v (cc := cX1_tellSky) (maxL := 3) (by decide +kernel) rfl (Nat.le_of_ble_eq_true rfl) ?_
  intro p e s mt below meth c A Q X hw hret ls hl
  obtain ⟨hx, hb, -⟩ := id X
  have hl : lv_has ls 3 [(0, .ref d), (1, .int (nI x)), (2, .int v)] := hl
  refine lv_iload_n hx hb dX1_tellSky_0 rfl (lv_at hl 1 rfl) ?_
  refine xcPN (n := 1) (As := [.int (nI x)]) (rest := []) X hw (c_X7_isLength l G (nI x) ) (goodIn_p _ [4] rfl (by decide +kernel)) (host := RX7) (by decide +kernel) (by decide +kernel) (by decide +kernel) rfl ⟨rfl, rfl⟩ (by decide +kernel) ⟨by decide, by decide⟩ rfl hl.1 rfl (Nat.le_of_ble_eq_true rfl) dX1_tellSky_1 ⟨by decide, by decide⟩ (fun r w1 H locs hp hw => ?_)
  obtain rfl := hp
  refine W.eq (g2 := F0 mt 4 ls [.int (bi (inL (nI x)))]) rfl ?_
  refine lv_if_eq (tgt := 14) hx hb dX1_tellSky_4 (by decide) (fun c4 => ?_) (fun c4 => ?_)
  · exact absurd (bi_f c4) (by rw [inL_nI (by omega)]; simp [hx1, hx2])
  · skip
    refine lv_aload_n hx hb dX1_tellSky_7 rfl (lv_at hl 0 rfl) ?_
    refine xg X hw (C := RX1) (T := TX1) (N := 3) (by decide +kernel) 0 rfl rfl 2 (by decide) rfl (by decide +kernel) rfl dX1_tellSky_8 ?_
    refine lv_iload_n hx hb dX1_tellSky_11 rfl (lv_at hl 1 rfl) ?_
    refine lv_iload_n hx hb dX1_tellSky_12 rfl (lv_at hl 2 rfl) ?_
    refine xis X hw 2 rfl (j := x) (rfl) (by omega) (by decide) dX1_tellSky_13 (ws' := [(d, .inr (0, [.long (lN m), .ref e0, .ref k0])), (e0, .inl (G.2.1, 61, .inl er)), (k0, .inl (G.2.1, 61, .inl (upd sk x v)))]) rfl (fun H locs hw => ?_)
    refine hret _ _ _ _ _ dX1_tellSky_14 hw ?_
    exact ⟨rfl, rfl⟩

set_option maxHeartbeats 4000000 in
set_option maxRecDepth 100000 in
theorem c_X1_become (l : Launch) (G : GG) (d : Nat) (e0 : Nat) (k0 : Nat) (m : Nat) (er : Nat → Int32) (sk : Nat → Int32) (x : Nat) (v : Int32) (hx2 : x ≤ 60) : CT l G yX1_become wsX1_become ({ frames := 2, cells := 0, slots := 0, locals := 40 } : Room) [.ref d, .int (nI x), .int v] [(d, .inr (0, [.long (lN m), .ref e0, .ref k0])), (e0, .inl (G.2.1, 61, .inl er)), (k0, .inl (G.2.1, 61, .inl sk))] (fun r w => r = none ∧ w = [(d, .inr (0, [.long (lN (bcm m x v)), .ref e0, .ref k0])), (e0, .inl (G.2.1, 61, .inl (upd er x v))), (k0, .inl (G.2.1, 61, .inl sk))]) 0 0 := by
  refine ct_v (cc := cX1_become) (maxL := 3) (by decide +kernel) rfl (Nat.le_of_ble_eq_true rfl) ?_
  intro p e s mt below meth c A Q X hw hret ls hl
  obtain ⟨hx, hb, -⟩ := id X
  have hl : lv_has ls 3 [(0, .ref d), (1, .int (nI x)), (2, .int v)] := hl
  refine lv_iload_n hx hb dX1_become_0 rfl (lv_at hl 1 rfl) ?_
  refine xcPN (n := 1) (As := [.int (nI x)]) (rest := []) X hw (c_X7_isStation l G (nI x) ) (goodIn_p _ [6] rfl (by decide +kernel)) (host := RX7) (by decide +kernel) (by decide +kernel) (by decide +kernel) rfl ⟨rfl, rfl⟩ (by decide +kernel) ⟨by decide, by decide⟩ rfl hl.1 rfl (Nat.le_of_ble_eq_true rfl) dX1_become_1 ⟨by decide, by decide⟩ (fun r w1 H locs hp hw => ?_)
  obtain rfl := hp
  refine W.eq (g2 := F0 mt 4 ls [.int (bi (inS (nI x)))]) rfl ?_
  refine lv_if_ne (tgt := 8) hx hb dX1_become_4 (by decide) (fun c4 => ?_) (fun c4 => ?_)
  · skip
    refine lv_aload_n hx hb dX1_become_8 rfl (lv_at hl 0 rfl) ?_
    refine xg X hw (C := RX1) (T := TX1) (N := 3) (by decide +kernel) 0 rfl rfl 1 (by decide) rfl (by decide +kernel) rfl dX1_become_9 ?_
    refine lv_iload_n hx hb dX1_become_12 rfl (lv_at hl 1 rfl) ?_
    refine lv_iload_n hx hb dX1_become_13 rfl (lv_at hl 2 rfl) ?_
    refine xis X hw 1 rfl (j := x) (rfl) (by omega) (by decide) dX1_become_14 (ws' := [(d, .inr (0, [.long (lN m), .ref e0, .ref k0])), (e0, .inl (G.2.1, 61, .inl (upd er x v))), (k0, .inl (G.2.1, 61, .inl sk))]) rfl (fun H locs hw => ?_)
    refine lv_iload_n hx hb dX1_become_15 rfl (lv_at hl 2 rfl) ?_
    refine lv_bipush (v := (-6)) hx hb dX1_become_16 (by decide) ?_
    refine lv_icmp_ne (tgt := 41) hx hb dX1_become_18 (by decide) (fun c18 => ?_) (fun c18 => ?_)
    · skip
      refine lv_aload_n hx hb dX1_become_41 rfl (lv_at hl 0 rfl) ?_
      refine lv_dup hx hb dX1_become_42 rfl ?_
      refine xg X hw (C := RX1) (T := TX1) (N := 3) (by decide +kernel) 0 rfl rfl 0 (by decide) rfl (by decide +kernel) rfl dX1_become_43 ?_
      refine lv_iload_n hx hb dX1_become_46 rfl (lv_at hl 1 rfl) ?_
      refine xcP (n := 1) (As := [.int (nI x)]) (rest := [.long (lN m), .ref d]) X hw (c_X3_bit l G (nI x) ) gX1_become_X3_bit rfl ⟨rfl, rfl⟩ (by decide +kernel) ⟨by decide, by decide⟩ rfl hl.1 rfl (Nat.le_of_ble_eq_true rfl) dX1_become_47 ⟨by decide, by decide⟩ (fun r w1 H locs hp hw => ?_)
      obtain rfl := hp
      refine W.eq (g2 := F0 mt 50 ls [.long (lN (bitO (nI x))), .long (lN m), .ref d]) rfl ?_
      refine lv_lor hx hb dX1_become_50 ?_
      refine x_cvl (y := lN (bcm m x v)) (by rw [fb_orL, bitO_nI hx2]; unfold bcm; rw [if_neg c18]) ?_
      refine xp X hw (C := RX1) (ty := .long) (T := TX1) (N := 3) (by decide +kernel) tyX1 tyX1_ok nmX1 0 rfl rfl 0 (by decide) rfl (by decide +kernel) rfl (by decide +kernel) rfl rfl (Nat.le_of_ble_eq_true rfl) dX1_become_51 (ws' := [(d, .inr (0, [.long (lN (bcm m x v)), .ref e0, .ref k0])), (e0, .inl (G.2.1, 61, .inl (upd er x v))), (k0, .inl (G.2.1, 61, .inl sk))]) rfl (fun H locs hw => ?_)
      refine hret _ _ _ _ _ dX1_become_54 hw ?_
      exact ⟨rfl, rfl⟩
    · skip
      refine lv_aload_n hx hb dX1_become_21 rfl (lv_at hl 0 rfl) ?_
      refine lv_dup hx hb dX1_become_22 rfl ?_
      refine xg X hw (C := RX1) (T := TX1) (N := 3) (by decide +kernel) 0 rfl rfl 0 (by decide) rfl (by decide +kernel) rfl dX1_become_23 ?_
      refine lv_iload_n hx hb dX1_become_26 rfl (lv_at hl 1 rfl) ?_
      refine xcP (n := 1) (As := [.int (nI x)]) (rest := [.long (lN m), .ref d]) X hw (c_X3_bit l G (nI x) ) gX1_become_X3_bit rfl ⟨rfl, rfl⟩ (by decide +kernel) ⟨by decide, by decide⟩ rfl hl.1 rfl (Nat.le_of_ble_eq_true rfl) dX1_become_27 ⟨by decide, by decide⟩ (fun r w1 H locs hp hw => ?_)
      obtain rfl := hp
      refine W.eq (g2 := F0 mt 30 ls [.long (lN (bitO (nI x))), .long (lN m), .ref d]) rfl ?_
      refine xc2 X (v := (-1)) (by decide +kernel) dX1_become_30 ?_
      refine lv_lxor hx hb dX1_become_33 ?_
      refine lv_land hx hb dX1_become_34 ?_
      refine x_cvl (y := lN (bcm m x v)) (by rw [lN_wo, bitO_nI hx2]; unfold bcm; rw [if_pos c18]) ?_
      refine xp X hw (C := RX1) (ty := .long) (T := TX1) (N := 3) (by decide +kernel) tyX1 tyX1_ok nmX1 0 rfl rfl 0 (by decide) rfl (by decide +kernel) rfl (by decide +kernel) rfl rfl (Nat.le_of_ble_eq_true rfl) dX1_become_35 (ws' := [(d, .inr (0, [.long (lN (bcm m x v)), .ref e0, .ref k0])), (e0, .inl (G.2.1, 61, .inl (upd er x v))), (k0, .inl (G.2.1, 61, .inl sk))]) rfl (fun H locs hw => ?_)
      refine lv_goto (tgt := 54) hx hb dX1_become_38 (by decide) ?_
      refine hret _ _ _ _ _ dX1_become_54 hw ?_
      exact ⟨rfl, rfl⟩
  · exact absurd (bi_f c4) (by rw [inS_nI (by omega)]; simp [hx2])
