set_option maxHeartbeats 4000000 in
set_option maxRecDepth 100000 in
theorem c_X7_isStation (l : Launch) (G : GG) (x : Int32)  : CT l G yX7_isStation wsX7_isStation ({ frames := 0, cells := 0, slots := 0, locals := 0 } : Room) [.int x] [] (fun r _ => r = some (.int (bi (inS x)))) 0 0 := by
  refine ct_z (cc := cX7_isStation) (maxL := 1) (by decide +kernel) rfl (Nat.le_of_ble_eq_true rfl) ?_
  intro p e s mt below meth c A Q X hw hret ls hl
  obtain ⟨hx, hb, -⟩ := id X
  have hl : lv_has ls 1 [(0, .int x)] := hl
  refine lv_iload_n hx hb dX7_isStation_0 rfl (lv_at hl 0 rfl) ?_
  refine lv_if_lt (tgt := 14) hx hb dX7_isStation_1 (by decide) (fun c1 => ?_) (fun c1 => ?_)
  · refine lv_iconst (v := 0) hx hb dX7_isStation_14 (by decide) ?_
    refine hret _ _ _ _ _ _ dX7_isStation_15 hw (by first | exact bi_nar _ | decide) ?_
    exact congrArg (fun z => some (Value.int z)) (by grind [bi, inS])
  · refine lv_iload_n hx hb dX7_isStation_4 rfl (lv_at hl 0 rfl) ?_
    refine lv_bipush (v := 60) hx hb dX7_isStation_5 (by decide) ?_
    refine lv_icmp_gt (tgt := 14) hx hb dX7_isStation_7 (by decide) (fun c7 => ?_) (fun c7 => ?_)
    · refine lv_iconst (v := 0) hx hb dX7_isStation_14 (by decide) ?_
      refine hret _ _ _ _ _ _ dX7_isStation_15 hw (by first | exact bi_nar _ | decide) ?_
      exact congrArg (fun z => some (Value.int z)) (by grind [bi, inS])
    · refine lv_iconst (v := 1) hx hb dX7_isStation_10 (by decide) ?_
      refine lv_goto (tgt := 15) hx hb dX7_isStation_11 (by decide) ?_
      refine hret _ _ _ _ _ _ dX7_isStation_15 hw (by first | exact bi_nar _ | decide) ?_
      exact congrArg (fun z => some (Value.int z)) (by grind [bi, inS])

set_option maxHeartbeats 4000000 in
set_option maxRecDepth 100000 in
theorem c_X7_isLength (l : Launch) (G : GG) (x : Int32)  : CT l G yX7_isLength wsX7_isLength ({ frames := 0, cells := 0, slots := 0, locals := 0 } : Room) [.int x] [] (fun r _ => r = some (.int (bi (inL x)))) 0 0 := by
  refine ct_z (cc := cX7_isLength) (maxL := 1) (by decide +kernel) rfl (Nat.le_of_ble_eq_true rfl) ?_
  intro p e s mt below meth c A Q X hw hret ls hl
  obtain ⟨hx, hb, -⟩ := id X
  have hl : lv_has ls 1 [(0, .int x)] := hl
  refine lv_iload_n hx hb dX7_isLength_0 rfl (lv_at hl 0 rfl) ?_
  refine lv_iconst (v := 1) hx hb dX7_isLength_1 (by decide) ?_
  refine lv_icmp_lt (tgt := 15) hx hb dX7_isLength_2 (by decide) (fun c2 => ?_) (fun c2 => ?_)
  · refine lv_iconst (v := 0) hx hb dX7_isLength_15 (by decide) ?_
    refine hret _ _ _ _ _ _ dX7_isLength_16 hw (by first | exact bi_nar _ | decide) ?_
    exact congrArg (fun z => some (Value.int z)) (by grind [bi, inL])
  · refine lv_iload_n hx hb dX7_isLength_5 rfl (lv_at hl 0 rfl) ?_
    refine lv_bipush (v := 60) hx hb dX7_isLength_6 (by decide) ?_
    refine lv_icmp_gt (tgt := 15) hx hb dX7_isLength_8 (by decide) (fun c8 => ?_) (fun c8 => ?_)
    · refine lv_iconst (v := 0) hx hb dX7_isLength_15 (by decide) ?_
      refine hret _ _ _ _ _ _ dX7_isLength_16 hw (by first | exact bi_nar _ | decide) ?_
      exact congrArg (fun z => some (Value.int z)) (by grind [bi, inL])
    · refine lv_iconst (v := 1) hx hb dX7_isLength_11 (by decide) ?_
      refine lv_goto (tgt := 16) hx hb dX7_isLength_12 (by decide) ?_
      refine hret _ _ _ _ _ _ dX7_isLength_16 hw (by first | exact bi_nar _ | decide) ?_
      exact congrArg (fun z => some (Value.int z)) (by grind [bi, inL])

set_option maxHeartbeats 4000000 in
set_option maxRecDepth 100000 in
theorem c_X7_isPhase (l : Launch) (G : GG) (x : Int32)  : CT l G yX7_isPhase wsX7_isPhase ({ frames := 0, cells := 0, slots := 0, locals := 0 } : Room) [.int x] [] (fun r _ => r = some (.int (bi (inP x)))) 0 0 := by
  refine ct_z (cc := cX7_isPhase) (maxL := 1) (by decide +kernel) rfl (Nat.le_of_ble_eq_true rfl) ?_
  intro p e s mt below meth c A Q X hw hret ls hl
  obtain ⟨hx, hb, -⟩ := id X
  have hl : lv_has ls 1 [(0, .int x)] := hl
  refine lv_iload_n hx hb dX7_isPhase_0 rfl (lv_at hl 0 rfl) ?_
  refine lv_if_lt (tgt := 15) hx hb dX7_isPhase_1 (by decide) (fun c1 => ?_) (fun c1 => ?_)
  · refine lv_iconst (v := 0) hx hb dX7_isPhase_15 (by decide) ?_
    refine hret _ _ _ _ _ _ dX7_isPhase_16 hw (by first | exact bi_nar _ | decide) ?_
    exact congrArg (fun z => some (Value.int z)) (by grind [bi, inP])
  · refine lv_iload_n hx hb dX7_isPhase_4 rfl (lv_at hl 0 rfl) ?_
    refine lv_sipush (v := 360) hx hb dX7_isPhase_5 (by decide) ?_
    refine lv_icmp_ge (tgt := 15) hx hb dX7_isPhase_8 (by decide) (fun c8 => ?_) (fun c8 => ?_)
    · refine lv_iconst (v := 0) hx hb dX7_isPhase_15 (by decide) ?_
      refine hret _ _ _ _ _ _ dX7_isPhase_16 hw (by first | exact bi_nar _ | decide) ?_
      exact congrArg (fun z => some (Value.int z)) (by grind [bi, inP])
    · refine lv_iconst (v := 1) hx hb dX7_isPhase_11 (by decide) ?_
      refine lv_goto (tgt := 16) hx hb dX7_isPhase_12 (by decide) ?_
      refine hret _ _ _ _ _ _ dX7_isPhase_16 hw (by first | exact bi_nar _ | decide) ?_
      exact congrArg (fun z => some (Value.int z)) (by grind [bi, inP])

set_option maxHeartbeats 4000000 in
set_option maxRecDepth 100000 in
theorem c_X7_isImage (l : Launch) (G : GG) (x : Int32)  : CT l G yX7_isImage wsX7_isImage ({ frames := 0, cells := 0, slots := 0, locals := 0 } : Room) [.int x] [] (fun r _ => r = some (.int (bi (inG x)))) 0 0 := by
  refine ct_z (cc := cX7_isImage) (maxL := 1) (by decide +kernel) rfl (Nat.le_of_ble_eq_true rfl) ?_
  intro p e s mt below meth c A Q X hw hret ls hl
  obtain ⟨hx, hb, -⟩ := id X
  have hl : lv_has ls 1 [(0, .int x)] := hl
  refine lv_iload_n hx hb dX7_isImage_0 rfl (lv_at hl 0 rfl) ?_
  refine lv_if_eq (tgt := 9) hx hb dX7_isImage_1 (by decide) (fun c1 => ?_) (fun c1 => ?_)
  · refine lv_iconst (v := 1) hx hb dX7_isImage_9 (by decide) ?_
    refine lv_goto (tgt := 14) hx hb dX7_isImage_10 (by decide) ?_
    refine hret _ _ _ _ _ _ dX7_isImage_14 hw (by first | exact bi_nar _ | decide) ?_
    exact congrArg (fun z => some (Value.int z)) (by grind [bi, inG])
  · refine lv_iload_n hx hb dX7_isImage_4 rfl (lv_at hl 0 rfl) ?_
    refine lv_iconst (v := 1) hx hb dX7_isImage_5 (by decide) ?_
    refine lv_icmp_ne (tgt := 13) hx hb dX7_isImage_6 (by decide) (fun c6 => ?_) (fun c6 => ?_)
    · refine lv_iconst (v := 0) hx hb dX7_isImage_13 (by decide) ?_
      refine hret _ _ _ _ _ _ dX7_isImage_14 hw (by first | exact bi_nar _ | decide) ?_
      exact congrArg (fun z => some (Value.int z)) (by grind [bi, inG])
    · refine lv_iconst (v := 1) hx hb dX7_isImage_9 (by decide) ?_
      refine lv_goto (tgt := 14) hx hb dX7_isImage_10 (by decide) ?_
      refine hret _ _ _ _ _ _ dX7_isImage_14 hw (by first | exact bi_nar _ | decide) ?_
      exact congrArg (fun z => some (Value.int z)) (by grind [bi, inG])

set_option maxHeartbeats 4000000 in
set_option maxRecDepth 100000 in
theorem c_X7_isAskable (l : Launch) (G : GG) (x : Int32)  : CT l G yX7_isAskable wsX7_isAskable ({ frames := 0, cells := 0, slots := 0, locals := 0 } : Room) [.int x] [] (fun r _ => r = some (.int (bi (inA x)))) 0 0 := by
  refine ct_z (cc := cX7_isAskable) (maxL := 1) (by decide +kernel) rfl (Nat.le_of_ble_eq_true rfl) ?_
  intro p e s mt below meth c A Q X hw hret ls hl
  obtain ⟨hx, hb, -⟩ := id X
  have hl : lv_has ls 1 [(0, .int x)] := hl
  refine lv_iload_n hx hb dX7_isAskable_0 rfl (lv_at hl 0 rfl) ?_
  refine lv_if_lt (tgt := 9) hx hb dX7_isAskable_1 (by decide) (fun c1 => ?_) (fun c1 => ?_)
  · refine lv_iload_n hx hb dX7_isAskable_9 rfl (lv_at hl 0 rfl) ?_
    refine lv_bipush (v := 10) hx hb dX7_isAskable_10 (by decide) ?_
    refine lv_icmp_lt (tgt := 19) hx hb dX7_isAskable_12 (by decide) (fun c12 => ?_) (fun c12 => ?_)
    · refine lv_iconst (v := 0) hx hb dX7_isAskable_19 (by decide) ?_
      refine hret _ _ _ _ _ _ dX7_isAskable_20 hw (by first | exact bi_nar _ | decide) ?_
      exact congrArg (fun z => some (Value.int z)) (by grind [bi, inA])
    · refine lv_iconst (v := 1) hx hb dX7_isAskable_15 (by decide) ?_
      refine lv_goto (tgt := 20) hx hb dX7_isAskable_16 (by decide) ?_
      refine hret _ _ _ _ _ _ dX7_isAskable_20 hw (by first | exact bi_nar _ | decide) ?_
      exact congrArg (fun z => some (Value.int z)) (by grind [bi, inA])
  · refine lv_iload_n hx hb dX7_isAskable_4 rfl (lv_at hl 0 rfl) ?_
    refine lv_iconst (v := 2) hx hb dX7_isAskable_5 (by decide) ?_
    refine lv_icmp_le (tgt := 15) hx hb dX7_isAskable_6 (by decide) (fun c6 => ?_) (fun c6 => ?_)
    · refine lv_iconst (v := 1) hx hb dX7_isAskable_15 (by decide) ?_
      refine lv_goto (tgt := 20) hx hb dX7_isAskable_16 (by decide) ?_
      refine hret _ _ _ _ _ _ dX7_isAskable_20 hw (by first | exact bi_nar _ | decide) ?_
      exact congrArg (fun z => some (Value.int z)) (by grind [bi, inA])
    · refine lv_iload_n hx hb dX7_isAskable_9 rfl (lv_at hl 0 rfl) ?_
      refine lv_bipush (v := 10) hx hb dX7_isAskable_10 (by decide) ?_
      refine lv_icmp_lt (tgt := 19) hx hb dX7_isAskable_12 (by decide) (fun c12 => ?_) (fun c12 => ?_)
      · refine lv_iconst (v := 0) hx hb dX7_isAskable_19 (by decide) ?_
        refine hret _ _ _ _ _ _ dX7_isAskable_20 hw (by first | exact bi_nar _ | decide) ?_
        exact congrArg (fun z => some (Value.int z)) (by grind [bi, inA])
      · refine lv_iconst (v := 1) hx hb dX7_isAskable_15 (by decide) ?_
        refine lv_goto (tgt := 20) hx hb dX7_isAskable_16 (by decide) ?_
        refine hret _ _ _ _ _ _ dX7_isAskable_20 hw (by first | exact bi_nar _ | decide) ?_
        exact congrArg (fun z => some (Value.int z)) (by grind [bi, inA])

set_option maxHeartbeats 4000000 in
set_option maxRecDepth 100000 in
theorem c_X7_isSearchable (l : Launch) (G : GG) (k : Int32) (x : Int32)  : CT l G yX7_isSearchable wsX7_isSearchable ({ frames := 0, cells := 0, slots := 0, locals := 0 } : Room) [.int k, .int x] [] (fun r _ => r = some (.int (bi (inR k x)))) 0 0 := by
  refine ct_z (cc := cX7_isSearchable) (maxL := 2) (by decide +kernel) rfl (Nat.le_of_ble_eq_true rfl) ?_
  intro p e s mt below meth c A Q X hw hret ls hl
  obtain ⟨hx, hb, -⟩ := id X
  have hl : lv_has ls 2 [(0, .int k), (1, .int x)] := hl
  refine lv_iload_n hx hb dX7_isSearchable_0 rfl (lv_at hl 0 rfl) ?_
  refine lv_if_ne (tgt := 21) hx hb dX7_isSearchable_1 (by decide) (fun c1 => ?_) (fun c1 => ?_)
  · refine lv_iload_n hx hb dX7_isSearchable_21 rfl (lv_at hl 0 rfl) ?_
    refine lv_iconst (v := 1) hx hb dX7_isSearchable_22 (by decide) ?_
    refine lv_icmp_ne (tgt := 41) hx hb dX7_isSearchable_23 (by decide) (fun c23 => ?_) (fun c23 => ?_)
    · refine lv_iconst (v := 0) hx hb dX7_isSearchable_41 (by decide) ?_
      refine hret _ _ _ _ _ _ dX7_isSearchable_42 hw (by first | exact bi_nar _ | decide) ?_
      exact congrArg (fun z => some (Value.int z)) (by grind [bi, inR])
    · refine lv_iload_n hx hb dX7_isSearchable_26 rfl (lv_at hl 1 rfl) ?_
      refine lv_iconst (v := 1) hx hb dX7_isSearchable_27 (by decide) ?_
      refine lv_icmp_lt (tgt := 41) hx hb dX7_isSearchable_28 (by decide) (fun c28 => ?_) (fun c28 => ?_)
      · refine lv_iconst (v := 0) hx hb dX7_isSearchable_41 (by decide) ?_
        refine hret _ _ _ _ _ _ dX7_isSearchable_42 hw (by first | exact bi_nar _ | decide) ?_
        exact congrArg (fun z => some (Value.int z)) (by grind [bi, inR])
      · refine lv_iload_n hx hb dX7_isSearchable_31 rfl (lv_at hl 1 rfl) ?_
        refine lv_bipush (v := 20) hx hb dX7_isSearchable_32 (by decide) ?_
        refine lv_icmp_gt (tgt := 41) hx hb dX7_isSearchable_34 (by decide) (fun c34 => ?_) (fun c34 => ?_)
        · refine lv_iconst (v := 0) hx hb dX7_isSearchable_41 (by decide) ?_
          refine hret _ _ _ _ _ _ dX7_isSearchable_42 hw (by first | exact bi_nar _ | decide) ?_
          exact congrArg (fun z => some (Value.int z)) (by grind [bi, inR])
        · refine lv_iconst (v := 1) hx hb dX7_isSearchable_37 (by decide) ?_
          refine lv_goto (tgt := 42) hx hb dX7_isSearchable_38 (by decide) ?_
          refine hret _ _ _ _ _ _ dX7_isSearchable_42 hw (by first | exact bi_nar _ | decide) ?_
          exact congrArg (fun z => some (Value.int z)) (by grind [bi, inR])
  · refine lv_iload_n hx hb dX7_isSearchable_4 rfl (lv_at hl 1 rfl) ?_
    refine lv_iconst (v := 2) hx hb dX7_isSearchable_5 (by decide) ?_
    refine lv_icmp_lt (tgt := 19) hx hb dX7_isSearchable_6 (by decide) (fun c6 => ?_) (fun c6 => ?_)
    · refine lv_iconst (v := 0) hx hb dX7_isSearchable_19 (by decide) ?_
      refine hret _ _ _ _ _ _ dX7_isSearchable_20 hw (by first | exact bi_nar _ | decide) ?_
      exact congrArg (fun z => some (Value.int z)) (by grind [bi, inR])
    · refine lv_iload_n hx hb dX7_isSearchable_9 rfl (lv_at hl 1 rfl) ?_
      refine lv_bipush (v := 7) hx hb dX7_isSearchable_10 (by decide) ?_
      refine lv_icmp_gt (tgt := 19) hx hb dX7_isSearchable_12 (by decide) (fun c12 => ?_) (fun c12 => ?_)
      · refine lv_iconst (v := 0) hx hb dX7_isSearchable_19 (by decide) ?_
        refine hret _ _ _ _ _ _ dX7_isSearchable_20 hw (by first | exact bi_nar _ | decide) ?_
        exact congrArg (fun z => some (Value.int z)) (by grind [bi, inR])
      · refine lv_iconst (v := 1) hx hb dX7_isSearchable_15 (by decide) ?_
        refine lv_goto (tgt := 20) hx hb dX7_isSearchable_16 (by decide) ?_
        refine hret _ _ _ _ _ _ dX7_isSearchable_20 hw (by first | exact bi_nar _ | decide) ?_
        exact congrArg (fun z => some (Value.int z)) (by grind [bi, inR])

set_option maxHeartbeats 4000000 in
set_option maxRecDepth 100000 in
theorem c_J13_bitCount_95d88 (l : Launch) (G : GG) (n : Nat) (hn : n < 2 ^ 64) : CT l G yJ13_bitCount_95d88 wsJ13_bitCount_95d88 ({ frames := 0, cells := 0, slots := 0, locals := 0 } : Room) [.long (lN n)] [] (fun r _ => r = some (.int (nI (pcN 64 n)))) 0 0 := by
  refine ct_i (cc := cJ13_bitCount_95d88) (maxL := 2) (by decide +kernel) rfl (Nat.le_of_ble_eq_true rfl) ?_
  intro p e s mt below meth c A Q X hw hret ls hl
  obtain ⟨hx, hb, -⟩ := id X
  have hl : lv_has ls 2 [(0, .long (lN n))] := hl
  obtain ⟨c0, c1, c2, c3, c4, c5, c6, c7, h0, h1, h2, h3, h4, h5, h6, h7, hcnt, hle, hall⟩ := pc_64 hn
  obtain ⟨aq, ha⟩ : ∃ z, z = n - (n / 2 &&& 6148914691236517205) := ⟨_, rfl⟩
  obtain ⟨bq, hb2⟩ : ∃ z, z = (aq &&& 3689348814741910323) + (aq / 4 &&& 3689348814741910323) := ⟨_, rfl⟩
  have hall := hall aq bq ha hb2
  obtain ⟨cq, hc⟩ : ∃ z, z = ((bq + bq / 16) &&& 1085102592571150095) := ⟨_, rfl⟩
  obtain ⟨dq, hd⟩ : ∃ z, z = cq + cq / 256 := ⟨_, rfl⟩
  obtain ⟨eq, he⟩ : ∃ z, z = dq + dq / 65536 := ⟨_, rfl⟩
  obtain ⟨fq, hf⟩ : ∃ z, z = eq + eq / 4294967296 := ⟨_, rfl⟩
  have hfold := pc_fold h0 h1 h2 h3 h4 h5 h6 h7 (hc.trans hall.2.2) hd he hf
  refine lv_lload_n hx hb dJ13_bitCount_95d88_0 rfl (lv_at hl 0 rfl) ?_
  refine lv_lload_n hx hb dJ13_bitCount_95d88_1 rfl (lv_at hl 0 rfl) ?_
  refine lv_iconst (v := 1) hx hb dJ13_bitCount_95d88_2 (by decide) ?_
  refine lv_lushr (v := lN (n / 2)) hx hb dJ13_bitCount_95d88_3 (by exact wb_shr (k := 1) hn (by decide)) ?_
  refine xc2 X (v := 6148914691236517205) (by decide +kernel) dJ13_bitCount_95d88_4 ?_
  refine lv_land hx hb dJ13_bitCount_95d88_7 ?_
  refine x_cvl (y := lN (n / 2 &&& 6148914691236517205)) (by exact fb_andL _ _) ?_
  refine lv_lsub hx hb dJ13_bitCount_95d88_8 ?_
  refine x_cvl (y := lN aq) (by rw [ha]; exact lN_sub hle) ?_
  refine lv_lstore_n (lv' := [(0, .long (lN aq))]) hx hb dJ13_bitCount_95d88_9 rfl hl (by decide) rfl (fun ls hl => ?_)
  refine lv_lload_n hx hb dJ13_bitCount_95d88_10 rfl (lv_at hl 0 rfl) ?_
  refine xc2 X (v := 3689348814741910323) (by decide +kernel) dJ13_bitCount_95d88_11 ?_
  refine lv_land hx hb dJ13_bitCount_95d88_14 ?_
  refine x_cvl (y := lN (aq &&& 3689348814741910323)) (by exact fb_andL _ _) ?_
  refine lv_lload_n hx hb dJ13_bitCount_95d88_15 rfl (lv_at hl 0 rfl) ?_
  refine lv_iconst (v := 2) hx hb dJ13_bitCount_95d88_16 (by decide) ?_
  refine lv_lushr (v := lN (aq / 4)) hx hb dJ13_bitCount_95d88_17 (by exact wb_shr (k := 2) hall.1 (by decide)) ?_
  refine xc2 X (v := 3689348814741910323) (by decide +kernel) dJ13_bitCount_95d88_18 ?_
  refine lv_land hx hb dJ13_bitCount_95d88_21 ?_
  refine x_cvl (y := lN (aq / 4 &&& 3689348814741910323)) (by exact fb_andL _ _) ?_
  refine lv_ladd hx hb dJ13_bitCount_95d88_22 ?_
  refine x_cvl (y := lN bq) (by rw [hb2]; exact lN_add _ _) ?_
  refine lv_lstore_n (lv' := [(0, .long (lN bq))]) hx hb dJ13_bitCount_95d88_23 rfl hl (by decide) rfl (fun ls hl => ?_)
  refine lv_lload_n hx hb dJ13_bitCount_95d88_24 rfl (lv_at hl 0 rfl) ?_
  refine lv_lload_n hx hb dJ13_bitCount_95d88_25 rfl (lv_at hl 0 rfl) ?_
  refine lv_iconst (v := 4) hx hb dJ13_bitCount_95d88_26 (by decide) ?_
  refine lv_lushr (v := lN (bq / 16)) hx hb dJ13_bitCount_95d88_27 (by exact wb_shr (k := 4) (Nat.lt_trans hall.2.1 (by decide)) (by decide)) ?_
  refine lv_ladd hx hb dJ13_bitCount_95d88_28 ?_
  refine x_cvl (y := lN (bq + bq / 16)) (by exact lN_add _ _) ?_
  refine xc2 X (v := 1085102592571150095) (by decide +kernel) dJ13_bitCount_95d88_29 ?_
  refine lv_land hx hb dJ13_bitCount_95d88_32 ?_
  refine x_cvl (y := lN cq) (by rw [hc]; exact fb_andL _ _) ?_
  refine lv_lstore_n (lv' := [(0, .long (lN cq))]) hx hb dJ13_bitCount_95d88_33 rfl hl (by decide) rfl (fun ls hl => ?_)
  refine lv_lload_n hx hb dJ13_bitCount_95d88_34 rfl (lv_at hl 0 rfl) ?_
  refine lv_lload_n hx hb dJ13_bitCount_95d88_35 rfl (lv_at hl 0 rfl) ?_
  refine lv_bipush (v := 8) hx hb dJ13_bitCount_95d88_36 (by decide) ?_
  refine lv_lushr (v := lN (cq / 256)) hx hb dJ13_bitCount_95d88_38 (by exact wb_shr (k := 8) (Nat.lt_trans hfold.1 (by decide)) (by decide)) ?_
  refine lv_ladd hx hb dJ13_bitCount_95d88_39 ?_
  refine x_cvl (y := lN dq) (by rw [hd]; exact lN_add _ _) ?_
  refine lv_lstore_n (lv' := [(0, .long (lN dq))]) hx hb dJ13_bitCount_95d88_40 rfl hl (by decide) rfl (fun ls hl => ?_)
  refine lv_lload_n hx hb dJ13_bitCount_95d88_41 rfl (lv_at hl 0 rfl) ?_
  refine lv_lload_n hx hb dJ13_bitCount_95d88_42 rfl (lv_at hl 0 rfl) ?_
  refine lv_bipush (v := 16) hx hb dJ13_bitCount_95d88_43 (by decide) ?_
  refine lv_lushr (v := lN (dq / 65536)) hx hb dJ13_bitCount_95d88_45 (by exact wb_shr (k := 16) (Nat.lt_trans hfold.2.1 (by decide)) (by decide)) ?_
  refine lv_ladd hx hb dJ13_bitCount_95d88_46 ?_
  refine x_cvl (y := lN eq) (by rw [he]; exact lN_add _ _) ?_
  refine lv_lstore_n (lv' := [(0, .long (lN eq))]) hx hb dJ13_bitCount_95d88_47 rfl hl (by decide) rfl (fun ls hl => ?_)
  refine lv_lload_n hx hb dJ13_bitCount_95d88_48 rfl (lv_at hl 0 rfl) ?_
  refine lv_lload_n hx hb dJ13_bitCount_95d88_49 rfl (lv_at hl 0 rfl) ?_
  refine lv_bipush (v := 32) hx hb dJ13_bitCount_95d88_50 (by decide) ?_
  refine lv_lushr (v := lN (eq / 4294967296)) hx hb dJ13_bitCount_95d88_52 (by exact wb_shr (k := 32) (Nat.lt_trans hfold.2.2.1 (by decide)) (by decide)) ?_
  refine lv_ladd hx hb dJ13_bitCount_95d88_53 ?_
  refine x_cvl (y := lN fq) (by rw [hf]; exact lN_add _ _) ?_
  refine lv_lstore_n (lv' := [(0, .long (lN fq))]) hx hb dJ13_bitCount_95d88_54 rfl hl (by decide) rfl (fun ls hl => ?_)
  refine lv_lload_n hx hb dJ13_bitCount_95d88_55 rfl (lv_at hl 0 rfl) ?_
  refine lv_l2i (v := nI fq) hx hb dJ13_bitCount_95d88_56 (by exact lN_i _) ?_
  refine lv_bipush (v := 127) hx hb dJ13_bitCount_95d88_57 (by decide) ?_
  refine lv_iand hx hb dJ13_bitCount_95d88_59 ?_
  refine x_cvi (y := nI (fq % 128)) (by exact fa_mask fq 7) ?_
  refine hret _ _ _ _ _ _ dJ13_bitCount_95d88_60 hw ?_
  exact congrArg (fun z => some (Value.int z)) (by rw [hfold.2.2.2, hcnt])
