set_option maxHeartbeats 4000000 in
set_option maxRecDepth 100000 in
theorem c_X3_bit (l : Launch) (G : GG) (x : Int32)  : CT l G yX3_bit wsX3_bit ({ frames := 1, cells := 0, slots := 0, locals := 20 } : Room) [.int x] [] (fun r _ => r = some (.long (lN (bitO x)))) 0 0 := by
  refine ct_l (cc := cX3_bit) (maxL := 1) (by decide +kernel) rfl (Nat.le_of_ble_eq_true rfl) ?_
  intro p e s mt below meth c A Q X hw hret ls hl
  obtain ⟨hx, hb, -⟩ := id X
  have hl : lv_has ls 1 [(0, .int x)] := hl
  refine lv_iload_n hx hb dX3_bit_0 rfl (lv_at hl 0 rfl) ?_
  refine xcPN (n := 1) (As := [.int x]) (rest := []) X hw (c_X7_isStation l G x ) (goodIn_p _ [3] rfl (by decide +kernel)) (host := RX7) (by decide +kernel) (by decide +kernel) (by decide +kernel) rfl ⟨rfl, rfl⟩ (by decide +kernel) ⟨by decide, by decide⟩ rfl hl.1 rfl (Nat.le_of_ble_eq_true rfl) dX3_bit_1 ⟨by decide, by decide⟩ (fun r w1 H locs hp hw => ?_)
  obtain rfl := hp
  refine W.eq (g2 := F0 mt 4 ls [.int (bi (inS x))]) rfl ?_
  refine lv_if_eq (tgt := 13) hx hb dX3_bit_4 (by decide) (fun c4 => ?_) (fun c4 => ?_)
  · have hi := bi_f c4
    refine lv_lconst (v := 0) hx hb dX3_bit_13 (by decide) ?_
    refine hret _ _ _ _ _ _ dX3_bit_14 hw ?_
    exact congrArg (fun z => some (Value.long z)) (by unfold bitO; rw [if_neg (by rw [hi]; decide)]; rfl)
  · have hi := bi_t c4
    refine lv_lconst (v := 1) hx hb dX3_bit_7 (by decide) ?_
    refine lv_iload_n hx hb dX3_bit_8 rfl (lv_at hl 0 rfl) ?_
    refine lv_lshl (v := 1 <<< (x.toInt64 &&& 63)) hx hb dX3_bit_9 (by rfl) ?_
    refine lv_goto (tgt := 14) hx hb dX3_bit_10 (by decide) ?_
    refine hret _ _ _ _ _ _ dX3_bit_14 hw ?_
    exact congrArg (fun z => some (Value.long z)) (by exact bit_shl hi)

set_option maxHeartbeats 4000000 in
set_option maxRecDepth 100000 in
theorem c_X3_has (l : Launch) (G : GG) (m : Nat) (x : Int32) (hm : m < 2 ^ 61) : CT l G yX3_has wsX3_has ({ frames := 2, cells := 0, slots := 0, locals := 40 } : Room) [.long (lN m), .int x] [] (fun r _ => r = some (.int (bi (stn m x)))) 0 0 := by
  refine ct_z (cc := cX3_has) (maxL := 3) (by decide +kernel) rfl (Nat.le_of_ble_eq_true rfl) ?_
  intro p e s mt below meth c A Q X hw hret ls hl
  obtain ⟨hx, hb, -⟩ := id X
  have hl : lv_has ls 3 [(0, .long (lN m)), (2, .int x)] := hl
  refine lv_lload_n hx hb dX3_has_0 rfl (lv_at hl 0 rfl) ?_
  refine lv_iload_n hx hb dX3_has_1 rfl (lv_at hl 1 rfl) ?_
  refine xcP (n := 1) (As := [.int x]) (rest := [.long (lN m)]) X hw (c_X3_bit l G x ) gX3_has_X3_bit rfl ⟨rfl, rfl⟩ (by decide +kernel) ⟨by decide, by decide⟩ rfl hl.1 rfl (Nat.le_of_ble_eq_true rfl) dX3_has_2 ⟨by decide, by decide⟩ (fun r w1 H locs hp hw => ?_)
  obtain rfl := hp
  refine W.eq (g2 := F0 mt 5 ls [.long (lN (bitO x)), .long (lN m)]) rfl ?_
  refine lv_land hx hb dX3_has_5 ?_
  refine x_cvl (y := lN (m &&& bitO x)) (by exact fb_andL _ _) ?_
  refine lv_lconst (v := 0) hx hb dX3_has_6 (by decide) ?_
  refine W.lcmp hx hb dX3_has_7 ?_
  refine lv_if_eq (tgt := 15) hx hb dX3_has_8 (by decide) (fun c8 => ?_) (fun c8 => ?_)
  · refine lv_iconst (v := 0) hx hb dX3_has_15 (by decide) ?_
    refine hret _ _ _ _ _ _ dX3_has_16 hw (by first | exact bi_nar _ | decide) ?_
    exact congrArg (fun z => some (Value.int z)) (by rw [has_f hm c8]; rfl)
  · refine lv_iconst (v := 1) hx hb dX3_has_11 (by decide) ?_
    refine lv_goto (tgt := 16) hx hb dX3_has_12 (by decide) ?_
    refine hret _ _ _ _ _ _ dX3_has_16 hw (by first | exact bi_nar _ | decide) ?_
    exact congrArg (fun z => some (Value.int z)) (by rw [has_t c8]; rfl)

set_option maxHeartbeats 4000000 in
set_option maxRecDepth 100000 in
theorem c_X3_markAt (l : Launch) (G : GG) (m : Nat) (i : Int32) (hm : m < 2 ^ 61) : CT l G yX3_markAt wsX3_markAt ({ frames := 3, cells := 0, slots := 0, locals := 62 } : Room) [.long (lN m), .int i] [] (fun r _ => r = some (.int (mkA m i))) 0 0 := by
  refine ct_i (cc := cX3_markAt) (maxL := 5) (by decide +kernel) rfl (Nat.le_of_ble_eq_true rfl) ?_
  intro p e s mt below meth c A Q X hw hret ls hl
  obtain ⟨hx, hb, -⟩ := id X
  have hl : lv_has ls 5 [(0, .long (lN m)), (2, .int i)] := hl
  refine lv_iconst (v := 0) hx hb dX3_markAt_0 (by decide) ?_
  refine x_cvi (y := nI 0) (by rfl) ?_
  refine lv_istore_n (lv' := [(3, .int (nI 0)), (0, .long (lN m)), (2, .int i)]) hx hb dX3_markAt_1 rfl hl (by decide) rfl (fun ls hl => ?_)
  refine lv_iconst (v := 0) hx hb dX3_markAt_2 (by decide) ?_
  refine x_cvi (y := nI 0) (by rfl) ?_
  refine lv_istore (lv' := [(4, .int (nI 0)), (3, .int (nI 0)), (0, .long (lN m)), (2, .int i)]) hx hb dX3_markAt_3 hl (by decide) rfl (fun ls hl => ?_)
  have lp5 : ∀ (fu : Nat) (k : Nat) (a : Nat) (H : Heap) (locs : List Loc) (ls : Array Slot), 61 - k < fu → (k ≤ 61) → (a ≤ k) → (mkF m i (61 - k) k a = mkA m i) → WS G A s.heap H locs [] → lv_has ls 5 [(0, .long (lN m)), (2, .int i), (3, .int (nI a)), (4, .int (nI k))] → W p l e ({ frames := 3, cells := 0, slots := 0, locals := 62 } : Room) s mt ([.long (lN m), .int i] : List Value).toArray below meth c H locs 0 0 Q (F0 mt 5 ls []) := by
    intro fu
    induction fu with
    | zero =>
      intro k a H locs ls hmu
      exact absurd hmu (Nat.not_lt_zero _)
    | succ fu ih5 =>
      intro k a H locs ls hmu5 hk ha hR hw hl
      refine lv_iload hx hb dX3_markAt_5 (lv_at hl 3 rfl) ?_
      refine lv_bipush (v := 60) hx hb dX3_markAt_7 (by decide) ?_
      refine lv_icmp_gt (tgt := 41) hx hb dX3_markAt_9 (by decide) (fun c9 => ?_) (fun c9 => ?_)
      · have hk2 : 60 < k := i_lt (by decide) (by omega) c9
        refine lv_bipush (v := (-6)) hx hb dX3_markAt_41 (by decide) ?_
        refine hret _ _ _ _ _ _ dX3_markAt_43 hw ?_
        exact congrArg (fun z => some (Value.int z)) (by rw [show k = 61 by omega] at hR; exact hR)
      · have hk2 : k ≤ 60 := i_nlt (by decide) (by omega) c9
        refine lv_lload_n hx hb dX3_markAt_12 rfl (lv_at hl 0 rfl) ?_
        refine lv_iload hx hb dX3_markAt_13 (lv_at hl 3 rfl) ?_
        refine xcP (n := 2) (As := [.long (lN m), .int (nI k)]) (rest := []) X hw (c_X3_has l G m (nI k) hm) gX3_markAt_X3_has rfl ⟨rfl, rfl⟩ (by decide +kernel) ⟨by decide, by decide⟩ rfl hl.1 rfl (Nat.le_of_ble_eq_true rfl) dX3_markAt_15 ⟨by decide, by decide⟩ (fun r w1 H locs hp hw => ?_)
        obtain rfl := hp
        refine W.eq (g2 := F0 mt 18 ls [.int (bi (stn m (nI k)))]) rfl ?_
        refine lv_if_ne (tgt := 24) hx hb dX3_markAt_18 (by decide) (fun c18 => ?_) (fun c18 => ?_)
        · have hbt : m.testBit k = true := by rw [← stn_nI (by omega)]; exact bi_t c18
          refine lv_iload_n hx hb dX3_markAt_24 rfl (lv_at hl 2 rfl) ?_
          refine lv_iload_n hx hb dX3_markAt_25 rfl (lv_at hl 1 rfl) ?_
          refine lv_icmp_ne (tgt := 32) hx hb dX3_markAt_26 (by decide) (fun c26 => ?_) (fun c26 => ?_)
          · refine lv_iinc (v := nI (a + 1)) (lv' := [(3, .int (nI (a + 1))), (0, .long (lN m)), (2, .int i), (4, .int (nI k))]) hx hb dX3_markAt_32 hl (k := 2) rfl (by exact nI_1 _) (by decide) rfl (fun ls hl => ?_)
            refine lv_iinc (v := nI (k + 1)) (lv' := [(4, .int (nI (k + 1))), (3, .int (nI (a + 1))), (0, .long (lN m)), (2, .int i)]) hx hb dX3_markAt_35 hl (k := 3) rfl (by exact nI_1 _) (by decide) rfl (fun ls hl => ?_)
            refine lv_goto (tgt := 5) hx hb dX3_markAt_38 (by decide) ?_
            exact ih5 (k + 1) (a + 1) _ _ _ (by omega) (by omega) (by omega) (by rw [show 61 - k = (61 - (k + 1)) + 1 by omega] at hR; simpa [mkF, hbt, c26] using hR) hw (lv_sub hl [2, 3, 1, 0] rfl)
          · refine lv_iload hx hb dX3_markAt_29 (lv_at hl 3 rfl) ?_
            refine hret _ _ _ _ _ _ dX3_markAt_31 hw ?_
            exact congrArg (fun z => some (Value.int z)) (by rw [show 61 - k = (61 - (k + 1)) + 1 by omega] at hR; simpa [mkF, hbt, c26] using hR)
        · have hbt : m.testBit k = false := by rw [← stn_nI (by omega)]; exact bi_f c18
          refine lv_goto (tgt := 35) hx hb dX3_markAt_21 (by decide) ?_
          refine lv_iinc (v := nI (k + 1)) (lv' := [(4, .int (nI (k + 1))), (0, .long (lN m)), (2, .int i), (3, .int (nI a))]) hx hb dX3_markAt_35 hl (k := 3) rfl (by exact nI_1 _) (by decide) rfl (fun ls hl => ?_)
          refine lv_goto (tgt := 5) hx hb dX3_markAt_38 (by decide) ?_
          exact ih5 (k + 1) a _ _ _ (by omega) (by omega) (by omega) (by rw [show 61 - k = (61 - (k + 1)) + 1 by omega] at hR; simpa [mkF, hbt] using hR) hw (lv_sub hl [1, 2, 3, 0] rfl)
  exact lp5 _ 0 0 _ _ _ (Nat.lt_succ_self _) (by omega) (by omega) (rfl) hw (lv_sub hl [2, 3, 1, 0] rfl)

set_option maxHeartbeats 4000000 in
set_option maxRecDepth 100000 in
theorem c_X3_often (l : Launch) (G : GG) (m : Nat) (x : Int32) (hm : m < 2 ^ 61) : CT l G yX3_often wsX3_often ({ frames := 1, cells := 0, slots := 0, locals := 21 } : Room) [.long (lN m), .int x] [] (fun r _ => r = some (.int (nI (ofX m x)))) 0 0 := by
  refine ct_i (cc := cX3_often) (maxL := 3) (by decide +kernel) rfl (Nat.le_of_ble_eq_true rfl) ?_
  intro p e s mt below meth c A Q X hw hret ls hl
  obtain ⟨hx, hb, -⟩ := id X
  have hl : lv_has ls 3 [(0, .long (lN m)), (2, .int x)] := hl
  refine lv_iload_n hx hb dX3_often_0 rfl (lv_at hl 1 rfl) ?_
  refine xcPN (n := 1) (As := [.int x]) (rest := []) X hw (c_X7_isLength l G x ) (goodIn_p _ [3] rfl (by decide +kernel)) (host := RX7) (by decide +kernel) (by decide +kernel) (by decide +kernel) rfl ⟨rfl, rfl⟩ (by decide +kernel) ⟨by decide, by decide⟩ rfl hl.1 rfl (Nat.le_of_ble_eq_true rfl) dX3_often_1 ⟨by decide, by decide⟩ (fun r w1 H locs hp hw => ?_)
  obtain rfl := hp
  refine W.eq (g2 := F0 mt 4 ls [.int (bi (inL x))]) rfl ?_
  refine lv_if_ne (tgt := 9) hx hb dX3_often_4 (by decide) (fun c4 => ?_) (fun c4 => ?_)
  · have hi := bi_t c4
    obtain ⟨k, hk1, hk2, hxk⟩ := inL_of hi
    refine lv_lload_n hx hb dX3_often_9 rfl (lv_at hl 0 rfl) ?_
    refine lv_lload_n hx hb dX3_often_10 rfl (lv_at hl 0 rfl) ?_
    refine lv_iload_n hx hb dX3_often_11 rfl (lv_at hl 1 rfl) ?_
    refine lv_lushr (v := ((lN m).toUInt64 >>> (x.toInt64.toUInt64 &&& Int64.toUInt64 63)).toInt64) hx hb dX3_often_12 (by rfl) ?_
    refine lv_land hx hb dX3_often_13 ?_
    refine x_cvl (y := lN (m &&& (m / 2 ^ k))) (by rw [hxk]; exact often_sh hm hk2) ?_
    refine xcP (n := 1) (As := [.long (lN (m &&& (m / 2 ^ k)))]) (rest := []) X hw (c_J13_bitCount_95d88 l G (m &&& (m / 2 ^ k)) (Nat.lt_of_le_of_lt Nat.and_le_left (Nat.lt_trans hm (by decide)))) gX3_often_J13_bitCount_95d88 rfl ⟨rfl, rfl⟩ (by decide +kernel) ⟨by decide, by decide⟩ rfl hl.1 rfl (Nat.le_of_ble_eq_true rfl) dX3_often_14 ⟨by decide, by decide⟩ (fun r w1 H locs hp hw => ?_)
    obtain rfl := hp
    refine W.eq (g2 := F0 mt 17 ls [.int (nI (pcN 64 (m &&& (m / 2 ^ k))))]) rfl ?_
    refine hret _ _ _ _ _ _ dX3_often_17 hw ?_
    exact congrArg (fun z => some (Value.int z)) (by rw [hxk, ofX_nI hk1 hk2]; rfl)
  · have hi := bi_f c4
    refine lv_iconst (v := 0) hx hb dX3_often_7 (by decide) ?_
    refine hret _ _ _ _ _ _ dX3_often_8 hw ?_
    exact congrArg (fun z => some (Value.int z)) (by unfold ofX; rw [if_neg (by rw [hi]; decide)]; rfl)

set_option maxHeartbeats 4000000 in
set_option maxRecDepth 100000 in
theorem c_X3_reach (l : Launch) (G : GG) (m : Nat) (hm : m < 2 ^ 61) : CT l G yX3_reach wsX3_reach ({ frames := 2, cells := 0, slots := 0, locals := 43 } : Room) [.long (lN m)] [] (fun r _ => r = some (.int (nI (reN m)))) 0 0 := by
  refine ct_i (cc := cX3_reach) (maxL := 3) (by decide +kernel) rfl (Nat.le_of_ble_eq_true rfl) ?_
  intro p e s mt below meth c A Q X hw hret ls hl
  obtain ⟨hx, hb, -⟩ := id X
  have hl : lv_has ls 3 [(0, .long (lN m))] := hl
  refine lv_iconst (v := 1) hx hb dX3_reach_0 (by decide) ?_
  refine x_cvi (y := nI 1) (by rfl) ?_
  refine lv_istore_n (lv' := [(2, .int (nI 1)), (0, .long (lN m))]) hx hb dX3_reach_1 rfl hl (by decide) rfl (fun ls hl => ?_)
  have lp2 : ∀ (fu : Nat) (d : Nat) (H : Heap) (locs : List Loc) (ls : Array Slot), 61 - d < fu → (1 ≤ d ∧ d ≤ 61) → (reF m (61 - d) d = reN m) → WS G A s.heap H locs [] → lv_has ls 3 [(0, .long (lN m)), (2, .int (nI d))] → W p l e ({ frames := 2, cells := 0, slots := 0, locals := 43 } : Room) s mt ([.long (lN m)] : List Value).toArray below meth c H locs 0 0 Q (F0 mt 2 ls []) := by
    intro fu
    induction fu with
    | zero =>
      intro d H locs ls hmu
      exact absurd hmu (Nat.not_lt_zero _)
    | succ fu ih2 =>
      intro d H locs ls hmu2 hd hR hw hl
      refine lv_iload_n hx hb dX3_reach_2 rfl (lv_at hl 1 rfl) ?_
      refine lv_bipush (v := 60) hx hb dX3_reach_3 (by decide) ?_
      refine lv_icmp_gt (tgt := 26) hx hb dX3_reach_5 (by decide) (fun c5 => ?_) (fun c5 => ?_)
      · have hk2 : 60 < d := i_lt (by decide) (by omega) c5
        refine lv_bipush (v := 60) hx hb dX3_reach_26 (by decide) ?_
        refine hret _ _ _ _ _ _ dX3_reach_28 hw ?_
        exact congrArg (fun z => some (Value.int z)) (by rw [show d = 61 by omega] at hR; rw [← hR]; rfl)
      · have hk2 : d ≤ 60 := i_nlt (by decide) (by omega) c5
        refine lv_lload_n hx hb dX3_reach_8 rfl (lv_at hl 0 rfl) ?_
        refine lv_iload_n hx hb dX3_reach_9 rfl (lv_at hl 1 rfl) ?_
        refine xcP (n := 2) (As := [.long (lN m), .int (nI d)]) (rest := []) X hw (c_X3_often l G m (nI d) hm) gX3_reach_X3_often rfl ⟨rfl, rfl⟩ (by decide +kernel) ⟨by decide, by decide⟩ rfl hl.1 rfl (Nat.le_of_ble_eq_true rfl) dX3_reach_10 ⟨by decide, by decide⟩ (fun r w1 H locs hp hw => ?_)
        obtain rfl := hp
        refine W.eq (g2 := F0 mt 13 ls [.int (nI (ofX m (nI d)))]) rfl ?_
        refine lv_if_ne (tgt := 20) hx hb dX3_reach_13 (by decide) (fun c13 => ?_) (fun c13 => ?_)
        · rw [ofX_nI hd.1 hk2] at c13
          have hz : ¬ ofN m d = 0 := fun q => c13 (by rw [q]; rfl)
          refine lv_iinc (v := nI (d + 1)) (lv' := [(2, .int (nI (d + 1))), (0, .long (lN m))]) hx hb dX3_reach_20 hl (k := 1) rfl (by exact nI_1 _) (by decide) rfl (fun ls hl => ?_)
          refine lv_goto (tgt := 2) hx hb dX3_reach_23 (by decide) ?_
          exact ih2 (d + 1) _ _ _ (by omega) (by omega) (by rw [show 61 - d = (61 - (d + 1)) + 1 by omega] at hR; simpa [reF, hz] using hR) hw (lv_sub hl [1, 0] rfl)
        · rw [ofX_nI hd.1 hk2] at c13
          have hz : ofN m d = 0 := i_eq (b := 0) (Nat.lt_of_le_of_lt (ofN_le _ _) (by decide)) (by decide) c13
          refine lv_iload_n hx hb dX3_reach_16 rfl (lv_at hl 1 rfl) ?_
          refine lv_iconst (v := 1) hx hb dX3_reach_17 (by decide) ?_
          refine lv_isub hx hb dX3_reach_18 ?_
          refine hret _ _ _ _ _ _ dX3_reach_19 hw ?_
          exact congrArg (fun z => some (Value.int z)) (by rw [show 61 - d = (61 - (d + 1)) + 1 by omega] at hR; rw [← hR]; simp only [reF, hz, if_true]; exact pk_sub (b := 1) hd.1)
  exact lp2 _ 1 _ _ _ (Nat.lt_succ_self _) (by decide) (rfl) hw (lv_sub hl [1, 0] rfl)

set_option maxHeartbeats 4000000 in
set_option maxRecDepth 100000 in
theorem c_X3_reachWithout (l : Launch) (G : GG) (m : Nat) (x : Int32) (hm : m < 2 ^ 61) : CT l G yX3_reachWithout wsX3_reachWithout ({ frames := 3, cells := 0, slots := 0, locals := 65 } : Room) [.long (lN m), .int x] [] (fun r _ => r = some (.int (nI (reN (woN m (bitO x)))))) 0 0 := by
  refine ct_i (cc := cX3_reachWithout) (maxL := 3) (by decide +kernel) rfl (Nat.le_of_ble_eq_true rfl) ?_
  intro p e s mt below meth c A Q X hw hret ls hl
  obtain ⟨hx, hb, -⟩ := id X
  have hl : lv_has ls 3 [(0, .long (lN m)), (2, .int x)] := hl
  refine lv_lload_n hx hb dX3_reachWithout_0 rfl (lv_at hl 0 rfl) ?_
  refine lv_iload_n hx hb dX3_reachWithout_1 rfl (lv_at hl 1 rfl) ?_
  refine xcP (n := 1) (As := [.int x]) (rest := [.long (lN m)]) X hw (c_X3_bit l G x ) gX3_reachWithout_X3_bit rfl ⟨rfl, rfl⟩ (by decide +kernel) ⟨by decide, by decide⟩ rfl hl.1 rfl (Nat.le_of_ble_eq_true rfl) dX3_reachWithout_2 ⟨by decide, by decide⟩ (fun r w1 H locs hp hw => ?_)
  obtain rfl := hp
  refine W.eq (g2 := F0 mt 5 ls [.long (lN (bitO x)), .long (lN m)]) rfl ?_
  refine xc2 X (v := (-1)) (by decide +kernel) dX3_reachWithout_5 ?_
  refine lv_lxor hx hb dX3_reachWithout_8 ?_
  refine lv_land hx hb dX3_reachWithout_9 ?_
  refine x_cvl (y := lN (woN m (bitO x))) (by exact lN_wo _ _) ?_
  refine xcP (n := 1) (As := [.long (lN (woN m (bitO x)))]) (rest := []) X hw (c_X3_reach l G (woN m (bitO x)) (wo_lt _ hm)) gX3_reachWithout_X3_reach rfl ⟨rfl, rfl⟩ (by decide +kernel) ⟨by decide, by decide⟩ rfl hl.1 rfl (Nat.le_of_ble_eq_true rfl) dX3_reachWithout_10 ⟨by decide, by decide⟩ (fun r w1 H locs hp hw => ?_)
  obtain rfl := hp
  refine W.eq (g2 := F0 mt 13 ls [.int (nI (reN (woN m (bitO x))))]) rfl ?_
  refine hret _ _ _ _ _ _ dX3_reachWithout_13 hw ?_
  rfl

set_option maxHeartbeats 4000000 in
set_option maxRecDepth 100000 in
theorem c_X3_span (l : Launch) (G : GG) (m : Nat) (hm : m < 2 ^ 61) : CT l G yX3_span wsX3_span ({ frames := 4, cells := 0, slots := 0, locals := 86 } : Room) [.long (lN m)] [] (fun r _ => r = some (.int (nI (spN m)))) 0 0 := by
  refine ct_i (cc := cX3_span) (maxL := 2) (by decide +kernel) rfl (Nat.le_of_ble_eq_true rfl) ?_
  intro p e s mt below meth c A Q X hw hret ls hl
  obtain ⟨hx, hb, -⟩ := id X
  have hl : lv_has ls 2 [(0, .long (lN m))] := hl
  refine lv_lload_n hx hb dX3_span_0 rfl (lv_at hl 0 rfl) ?_
  refine lv_lconst (v := 0) hx hb dX3_span_1 (by decide) ?_
  refine W.lcmp hx hb dX3_span_2 ?_
  refine lv_if_ne (tgt := 8) hx hb dX3_span_3 (by decide) (fun c3 => ?_) (fun c3 => ?_)
  · have h0 : m ≠ 0 := fun q => c3 ((lN_0 (Nat.lt_trans hm (by decide))).mpr q)
    refine lv_lload_n hx hb dX3_span_8 rfl (lv_at hl 0 rfl) ?_
    refine lv_lload_n hx hb dX3_span_9 rfl (lv_at hl 0 rfl) ?_
    refine xcP (n := 1) (As := [.long (lN m)]) (rest := [.long (lN m)]) X hw (c_J13_bitCount_95d88 l G m (Nat.lt_trans hm (by decide))) gX3_span_J13_bitCount_95d88 rfl ⟨rfl, rfl⟩ (by decide +kernel) ⟨by decide, by decide⟩ rfl hl.1 rfl (Nat.le_of_ble_eq_true rfl) dX3_span_10 ⟨by decide, by decide⟩ (fun r w1 H locs hp hw => ?_)
    obtain rfl := hp
    refine W.eq (g2 := F0 mt 13 ls [.int (nI (pcN 64 m)), .long (lN m)]) rfl ?_
    refine lv_iconst (v := 1) hx hb dX3_span_13 (by decide) ?_
    refine lv_isub hx hb dX3_span_14 ?_
    refine xcP (n := 2) (As := [.long (lN m), .int ((nI (pcN 64 m)) - 1)]) (rest := []) X hw (c_X3_markAt l G m ((nI (pcN 64 m)) - 1) hm) gX3_span_X3_markAt rfl ⟨rfl, rfl⟩ (by decide +kernel) ⟨by decide, by decide⟩ rfl hl.1 rfl (Nat.le_of_ble_eq_true rfl) dX3_span_15 ⟨by decide, by decide⟩ (fun r w1 H locs hp hw => ?_)
    obtain rfl := hp
    refine W.eq (g2 := F0 mt 18 ls [.int (mkA m ((nI (pcN 64 m)) - 1))]) rfl ?_
    refine lv_lload_n hx hb dX3_span_18 rfl (lv_at hl 0 rfl) ?_
    refine lv_iconst (v := 0) hx hb dX3_span_19 (by decide) ?_
    refine xcP (n := 2) (As := [.long (lN m), .int 0]) (rest := [.int (mkA m ((nI (pcN 64 m)) - 1))]) X hw (c_X3_markAt l G m 0 hm) gX3_span_X3_markAt rfl ⟨rfl, rfl⟩ (by decide +kernel) ⟨by decide, by decide⟩ rfl hl.1 rfl (Nat.le_of_ble_eq_true rfl) dX3_span_20 ⟨by decide, by decide⟩ (fun r w1 H locs hp hw => ?_)
    obtain rfl := hp
    refine W.eq (g2 := F0 mt 23 ls [.int (mkA m 0), .int (mkA m ((nI (pcN 64 m)) - 1))]) rfl ?_
    refine lv_isub hx hb dX3_span_23 ?_
    refine hret _ _ _ _ _ _ dX3_span_24 hw ?_
    exact congrArg (fun z => some (Value.int z)) (by exact span_eq hm h0)
  · have h0 : m = 0 := (lN_0 (Nat.lt_trans hm (by decide))).mp c3
    refine lv_iconst (v := 0) hx hb dX3_span_6 (by decide) ?_
    refine hret _ _ _ _ _ _ dX3_span_7 hw ?_
    exact congrArg (fun z => some (Value.int z)) (by rw [h0, sp_0]; rfl)

set_option maxHeartbeats 4000000 in
set_option maxRecDepth 100000 in
theorem c_X3_lacking (l : Launch) (G : GG) (m : Nat) (hm : m < 2 ^ 61) : CT l G yX3_lacking wsX3_lacking ({ frames := 5, cells := 0, slots := 0, locals := 107 } : Room) [.long (lN m)] [] (fun r _ => r = some (.int (nI (lkN m)))) 0 0 := by
  refine ct_i (cc := cX3_lacking) (maxL := 5) (by decide +kernel) rfl (Nat.le_of_ble_eq_true rfl) ?_
  intro p e s mt below meth c A Q X hw hret ls hl
  obtain ⟨hx, hb, -⟩ := id X
  have hl : lv_has ls 5 [(0, .long (lN m))] := hl
  refine lv_lload_n hx hb dX3_lacking_0 rfl (lv_at hl 0 rfl) ?_
  refine xcP (n := 1) (As := [.long (lN m)]) (rest := []) X hw (c_X3_span l G m hm) gX3_lacking_X3_span rfl ⟨rfl, rfl⟩ (by decide +kernel) ⟨by decide, by decide⟩ rfl hl.1 rfl (Nat.le_of_ble_eq_true rfl) dX3_lacking_1 ⟨by decide, by decide⟩ (fun r w1 H locs hp hw => ?_)
  obtain rfl := hp
  refine W.eq (g2 := F0 mt 4 ls [.int (nI (spN m))]) rfl ?_
  refine lv_istore_n (lv' := [(2, .int (nI (spN m))), (0, .long (lN m))]) hx hb dX3_lacking_4 rfl hl (by decide) rfl (fun ls hl => ?_)
  refine lv_iconst (v := 0) hx hb dX3_lacking_5 (by decide) ?_
  refine x_cvi (y := nI 0) (by rfl) ?_
  refine lv_istore_n (lv' := [(3, .int (nI 0)), (2, .int (nI (spN m))), (0, .long (lN m))]) hx hb dX3_lacking_6 rfl hl (by decide) rfl (fun ls hl => ?_)
  refine lv_iconst (v := 1) hx hb dX3_lacking_7 (by decide) ?_
  refine x_cvi (y := nI 1) (by rfl) ?_
  refine lv_istore (lv' := [(4, .int (nI 1)), (3, .int (nI 0)), (2, .int (nI (spN m))), (0, .long (lN m))]) hx hb dX3_lacking_8 hl (by decide) rfl (fun ls hl => ?_)
  have lp10 : ∀ (fu : Nat) (d : Nat) (a : Nat) (H : Heap) (locs : List Loc) (ls : Array Slot), 61 - d < fu → (1 ≤ d ∧ d ≤ spN m + 1) → (a = fb_ct (fun k => decide (ofN m (k + 1) = 0)) (d - 1)) → WS G A s.heap H locs [] → lv_has ls 5 [(0, .long (lN m)), (2, .int (nI (spN m))), (3, .int (nI a)), (4, .int (nI d))] → W p l e ({ frames := 5, cells := 0, slots := 0, locals := 107 } : Room) s mt ([.long (lN m)] : List Value).toArray below meth c H locs 0 0 Q (F0 mt 10 ls []) := by
    intro fu
    induction fu with
    | zero =>
      intro d a H locs ls hmu
      exact absurd hmu (Nat.not_lt_zero _)
    | succ fu ih10 =>
      intro d a H locs ls hmu10 hd ha hw hl
      have hsp := spN_le m
      refine lv_iload hx hb dX3_lacking_10 (lv_at hl 3 rfl) ?_
      refine lv_iload_n hx hb dX3_lacking_12 rfl (lv_at hl 1 rfl) ?_
      refine lv_icmp_gt (tgt := 34) hx hb dX3_lacking_13 (by decide) (fun c13 => ?_) (fun c13 => ?_)
      · have hk2 : spN m < d := i_lt (by omega) (by omega) c13
        refine lv_iload_n hx hb dX3_lacking_34 rfl (lv_at hl 2 rfl) ?_
        refine hret _ _ _ _ _ _ dX3_lacking_35 hw ?_
        exact congrArg (fun z => some (Value.int z)) (by rw [ha, show d - 1 = spN m by omega]; rfl)
      · have hk2 : d ≤ spN m := i_nlt (by omega) (by omega) c13
        refine lv_lload_n hx hb dX3_lacking_16 rfl (lv_at hl 0 rfl) ?_
        refine lv_iload hx hb dX3_lacking_17 (lv_at hl 3 rfl) ?_
        refine xcP (n := 2) (As := [.long (lN m), .int (nI d)]) (rest := []) X hw (c_X3_often l G m (nI d) hm) gX3_lacking_X3_often rfl ⟨rfl, rfl⟩ (by decide +kernel) ⟨by decide, by decide⟩ rfl hl.1 rfl (Nat.le_of_ble_eq_true rfl) dX3_lacking_19 ⟨by decide, by decide⟩ (fun r w1 H locs hp hw => ?_)
        obtain rfl := hp
        refine W.eq (g2 := F0 mt 22 ls [.int (nI (ofX m (nI d)))]) rfl ?_
        refine lv_if_ne (tgt := 28) hx hb dX3_lacking_22 (by decide) (fun c22 => ?_) (fun c22 => ?_)
        · rw [ofX_nI (by omega) (by omega)] at c22
          have hz : ¬ ofN m d = 0 := fun q => c22 (by rw [q]; rfl)
          refine lv_iinc (v := nI (d + 1)) (lv' := [(4, .int (nI (d + 1))), (0, .long (lN m)), (2, .int (nI (spN m))), (3, .int (nI a))]) hx hb dX3_lacking_28 hl (k := 3) rfl (by exact nI_1 _) (by decide) rfl (fun ls hl => ?_)
          refine lv_goto (tgt := 10) hx hb dX3_lacking_31 (by decide) ?_
          exact ih10 (d + 1) a _ _ _ (by omega) (by omega) (by rw [show d + 1 - 1 = (d - 1) + 1 by omega, fb_ct_succ, ← ha, show d - 1 + 1 = d by omega]; simp [hz]) hw (lv_sub hl [1, 2, 3, 0] rfl)
        · rw [ofX_nI (by omega) (by omega)] at c22
          have hz : ofN m d = 0 := i_eq (b := 0) (Nat.lt_of_le_of_lt (ofN_le _ _) (by decide)) (by decide) c22
          refine lv_iinc (v := nI (a + 1)) (lv' := [(3, .int (nI (a + 1))), (0, .long (lN m)), (2, .int (nI (spN m))), (4, .int (nI d))]) hx hb dX3_lacking_25 hl (k := 2) rfl (by exact nI_1 _) (by decide) rfl (fun ls hl => ?_)
          refine lv_iinc (v := nI (d + 1)) (lv' := [(4, .int (nI (d + 1))), (3, .int (nI (a + 1))), (0, .long (lN m)), (2, .int (nI (spN m)))]) hx hb dX3_lacking_28 hl (k := 3) rfl (by exact nI_1 _) (by decide) rfl (fun ls hl => ?_)
          refine lv_goto (tgt := 10) hx hb dX3_lacking_31 (by decide) ?_
          exact ih10 (d + 1) (a + 1) _ _ _ (by omega) (by omega) (by rw [show d + 1 - 1 = (d - 1) + 1 by omega, fb_ct_succ, ← ha, show d - 1 + 1 = d by omega]; simp [hz]) hw (lv_sub hl [2, 3, 1, 0] rfl)
  exact lp10 _ 1 0 _ _ _ (Nat.lt_succ_self _) (by omega) (rfl) hw (lv_sub hl [3, 2, 1, 0] rfl)

set_option maxHeartbeats 4000000 in
set_option maxRecDepth 100000 in
theorem c_X3_leastLacking (l : Launch) (G : GG) (m : Nat) (hm : m < 2 ^ 61) : CT l G yX3_leastLacking wsX3_leastLacking ({ frames := 5, cells := 0, slots := 0, locals := 107 } : Room) [.long (lN m)] [] (fun r _ => r = some (.int (llN m))) 0 0 := by
  refine ct_i (cc := cX3_leastLacking) (maxL := 3) (by decide +kernel) rfl (Nat.le_of_ble_eq_true rfl) ?_
  intro p e s mt below meth c A Q X hw hret ls hl
  obtain ⟨hx, hb, -⟩ := id X
  have hl : lv_has ls 3 [(0, .long (lN m))] := hl
  refine lv_lload_n hx hb dX3_leastLacking_0 rfl (lv_at hl 0 rfl) ?_
  refine xcP (n := 1) (As := [.long (lN m)]) (rest := []) X hw (c_X3_reach l G m hm) gX3_leastLacking_X3_reach rfl ⟨rfl, rfl⟩ (by decide +kernel) ⟨by decide, by decide⟩ rfl hl.1 rfl (Nat.le_of_ble_eq_true rfl) dX3_leastLacking_1 ⟨by decide, by decide⟩ (fun r w1 H locs hp hw => ?_)
  obtain rfl := hp
  refine W.eq (g2 := F0 mt 4 ls [.int (nI (reN m))]) rfl ?_
  refine lv_istore_n (lv' := [(2, .int (nI (reN m))), (0, .long (lN m))]) hx hb dX3_leastLacking_4 rfl hl (by decide) rfl (fun ls hl => ?_)
  refine lv_iload_n hx hb dX3_leastLacking_5 rfl (lv_at hl 0 rfl) ?_
  refine lv_lload_n hx hb dX3_leastLacking_6 rfl (lv_at hl 1 rfl) ?_
  refine xcP (n := 1) (As := [.long (lN m)]) (rest := [.int (nI (reN m))]) X hw (c_X3_span l G m hm) gX3_leastLacking_X3_span rfl ⟨rfl, rfl⟩ (by decide +kernel) ⟨by decide, by decide⟩ rfl hl.1 rfl (Nat.le_of_ble_eq_true rfl) dX3_leastLacking_7 ⟨by decide, by decide⟩ (fun r w1 H locs hp hw => ?_)
  obtain rfl := hp
  refine W.eq (g2 := F0 mt 10 ls [.int (nI (spN m)), .int (nI (reN m))]) rfl ?_
  refine lv_icmp_ge (tgt := 19) hx hb dX3_leastLacking_10 (by decide) (fun c10 => ?_) (fun c10 => ?_)
  · have hk2 : spN m ≤ reN m := i_le (Nat.lt_of_le_of_lt (spN_le m) (by decide)) (Nat.lt_of_le_of_lt (reN_le m) (by decide)) c10
    refine lv_bipush (v := (-6)) hx hb dX3_leastLacking_19 (by decide) ?_
    refine hret _ _ _ _ _ _ dX3_leastLacking_21 hw ?_
    exact congrArg (fun z => some (Value.int z)) (by unfold llN; rw [if_neg (by omega)])
  · have hk2 : reN m < spN m := i_nle (Nat.lt_of_le_of_lt (spN_le m) (by decide)) (Nat.lt_of_le_of_lt (reN_le m) (by decide)) c10
    refine lv_iload_n hx hb dX3_leastLacking_13 rfl (lv_at hl 0 rfl) ?_
    refine lv_iconst (v := 1) hx hb dX3_leastLacking_14 (by decide) ?_
    refine lv_iadd hx hb dX3_leastLacking_15 ?_
    refine x_cvi (y := nI (reN m + 1)) (by exact nI_1 _) ?_
    refine lv_goto (tgt := 21) hx hb dX3_leastLacking_16 (by decide) ?_
    refine hret _ _ _ _ _ _ dX3_leastLacking_21 hw ?_
    exact congrArg (fun z => some (Value.int z)) (by unfold llN; rw [if_pos hk2])

set_option maxHeartbeats 4000000 in
set_option maxRecDepth 100000 in
theorem c_X3_repeats (l : Launch) (G : GG) (m : Nat) (hm : m < 2 ^ 61) : CT l G yX3_repeats wsX3_repeats ({ frames := 2, cells := 0, slots := 0, locals := 43 } : Room) [.long (lN m)] [] (fun r _ => r = some (.int (nI (rpN m)))) 0 0 := by
  refine ct_i (cc := cX3_repeats) (maxL := 5) (by decide +kernel) rfl (Nat.le_of_ble_eq_true rfl) ?_
  intro p e s mt below meth c A Q X hw hret ls hl
  obtain ⟨hx, hb, -⟩ := id X
  have hl : lv_has ls 5 [(0, .long (lN m))] := hl
  refine lv_iconst (v := 0) hx hb dX3_repeats_0 (by decide) ?_
  refine x_cvi (y := nI 0) (by rfl) ?_
  refine lv_istore_n (lv' := [(2, .int (nI 0)), (0, .long (lN m))]) hx hb dX3_repeats_1 rfl hl (by decide) rfl (fun ls hl => ?_)
  refine lv_iconst (v := 1) hx hb dX3_repeats_2 (by decide) ?_
  refine x_cvi (y := nI 1) (by rfl) ?_
  refine lv_istore_n (lv' := [(3, .int (nI 1)), (2, .int (nI 0)), (0, .long (lN m))]) hx hb dX3_repeats_3 rfl hl (by decide) rfl (fun ls hl => ?_)
  have lp4 : ∀ (fu : Nat) (d : Nat) (a : Nat) (H : Heap) (locs : List Loc) (ls : Array Slot), 61 - d < fu → (1 ≤ d ∧ d ≤ 61) → (a = fb_sm (fun k => ofN m (k + 1) - 1) (d - 1)) → WS G A s.heap H locs [] → lv_has ls 5 [(0, .long (lN m)), (2, .int (nI a)), (3, .int (nI d))] → W p l e ({ frames := 2, cells := 0, slots := 0, locals := 43 } : Room) s mt ([.long (lN m)] : List Value).toArray below meth c H locs 0 0 Q (F0 mt 4 ls []) := by
    intro fu
    induction fu with
    | zero =>
      intro d a H locs ls hmu
      exact absurd hmu (Nat.not_lt_zero _)
    | succ fu ih4 =>
      intro d a H locs ls hmu4 hd ha hw hl
      refine lv_iload_n hx hb dX3_repeats_4 rfl (lv_at hl 2 rfl) ?_
      refine lv_bipush (v := 60) hx hb dX3_repeats_5 (by decide) ?_
      refine lv_icmp_gt (tgt := 36) hx hb dX3_repeats_7 (by decide) (fun c7 => ?_) (fun c7 => ?_)
      · have hk2 : 60 < d := i_lt (by decide) (by omega) c7
        refine lv_iload_n hx hb dX3_repeats_36 rfl (lv_at hl 1 rfl) ?_
        refine hret _ _ _ _ _ _ dX3_repeats_37 hw ?_
        exact congrArg (fun z => some (Value.int z)) (by rw [ha, show d - 1 = 60 by omega]; rfl)
      · have hk2 : d ≤ 60 := i_nlt (by decide) (by omega) c7
        refine lv_lload_n hx hb dX3_repeats_10 rfl (lv_at hl 0 rfl) ?_
        refine lv_iload_n hx hb dX3_repeats_11 rfl (lv_at hl 2 rfl) ?_
        refine xcP (n := 2) (As := [.long (lN m), .int (nI d)]) (rest := []) X hw (c_X3_often l G m (nI d) hm) gX3_repeats_X3_often rfl ⟨rfl, rfl⟩ (by decide +kernel) ⟨by decide, by decide⟩ rfl hl.1 rfl (Nat.le_of_ble_eq_true rfl) dX3_repeats_12 ⟨by decide, by decide⟩ (fun r w1 H locs hp hw => ?_)
        obtain rfl := hp
        refine W.eq (g2 := F0 mt 15 ls [.int (nI (ofX m (nI d)))]) rfl ?_
        rw [ofX_nI hd.1 hk2]
        refine lv_istore (lv' := [(4, .int (nI (ofN m d))), (0, .long (lN m)), (2, .int (nI a)), (3, .int (nI d))]) hx hb dX3_repeats_15 hl (by decide) rfl (fun ls hl => ?_)
        refine lv_iload hx hb dX3_repeats_17 (lv_at hl 0 rfl) ?_
        refine lv_iconst (v := 1) hx hb dX3_repeats_19 (by decide) ?_
        refine lv_icmp_le (tgt := 30) hx hb dX3_repeats_20 (by decide) (fun c20 => ?_) (fun c20 => ?_)
        · have hz : ofN m d ≤ 1 := i_le (b := 1) (Nat.lt_of_le_of_lt (ofN_le _ _) (by decide)) (by decide) c20
          refine lv_iinc (v := nI (d + 1)) (lv' := [(3, .int (nI (d + 1))), (4, .int (nI (ofN m d))), (0, .long (lN m)), (2, .int (nI a))]) hx hb dX3_repeats_30 hl (k := 3) rfl (by exact nI_1 _) (by decide) rfl (fun ls hl => ?_)
          refine lv_goto (tgt := 4) hx hb dX3_repeats_33 (by decide) ?_
          exact ih4 (d + 1) a _ _ _ (by omega) (by omega) (by rw [show d + 1 - 1 = (d - 1) + 1 by omega, fb_sm_succ, ← ha, show d - 1 + 1 = d by omega]; omega) hw (lv_sub hl [2, 3, 0] rfl)
        · have hz : 1 < ofN m d := i_nle (b := 1) (Nat.lt_of_le_of_lt (ofN_le _ _) (by decide)) (by decide) c20
          refine lv_iload_n hx hb dX3_repeats_23 rfl (lv_at hl 2 rfl) ?_
          refine lv_iload hx hb dX3_repeats_24 (lv_at hl 0 rfl) ?_
          refine lv_iconst (v := 1) hx hb dX3_repeats_26 (by decide) ?_
          refine lv_isub hx hb dX3_repeats_27 ?_
          refine x_cvi (y := nI (ofN m d - 1)) (by exact pk_sub (b := 1) (by omega)) ?_
          refine lv_iadd hx hb dX3_repeats_28 ?_
          refine x_cvi (y := nI (a + (ofN m d - 1))) (by exact nI_add _ _) ?_
          refine lv_istore_n (lv' := [(2, .int (nI (a + (ofN m d - 1)))), (4, .int (nI (ofN m d))), (0, .long (lN m)), (3, .int (nI d))]) hx hb dX3_repeats_29 rfl hl (by decide) rfl (fun ls hl => ?_)
          refine lv_iinc (v := nI (d + 1)) (lv' := [(3, .int (nI (d + 1))), (2, .int (nI (a + (ofN m d - 1)))), (4, .int (nI (ofN m d))), (0, .long (lN m))]) hx hb dX3_repeats_30 hl (k := 3) rfl (by exact nI_1 _) (by decide) rfl (fun ls hl => ?_)
          refine lv_goto (tgt := 4) hx hb dX3_repeats_33 (by decide) ?_
          exact ih4 (d + 1) (a + (ofN m d - 1)) _ _ _ (by omega) (by omega) (by rw [show d + 1 - 1 = (d - 1) + 1 by omega, fb_sm_succ, ← ha, show d - 1 + 1 = d by omega]) hw (lv_sub hl [3, 1, 0] rfl)
  exact lp4 _ 1 0 _ _ _ (Nat.lt_succ_self _) (by decide) (rfl) hw (lv_sub hl [2, 1, 0] rfl)

set_option maxHeartbeats 4000000 in
set_option maxRecDepth 100000 in
theorem c_X3_mostOften (l : Launch) (G : GG) (m : Nat) (hm : m < 2 ^ 61) : CT l G yX3_mostOften wsX3_mostOften ({ frames := 2, cells := 0, slots := 0, locals := 43 } : Room) [.long (lN m)] [] (fun r _ => r = some (.int (moN m))) 0 0 := by
  refine ct_i (cc := cX3_mostOften) (maxL := 6) (by decide +kernel) rfl (Nat.le_of_ble_eq_true rfl) ?_
  intro p e s mt below meth c A Q X hw hret ls hl
  obtain ⟨hx, hb, -⟩ := id X
  have hl : lv_has ls 6 [(0, .long (lN m))] := hl
  refine lv_bipush (v := (-6)) hx hb dX3_mostOften_0 (by decide) ?_
  refine lv_istore_n (lv' := [(2, .int (-6)), (0, .long (lN m))]) hx hb dX3_mostOften_2 rfl hl (by decide) rfl (fun ls hl => ?_)
  refine lv_iconst (v := 0) hx hb dX3_mostOften_3 (by decide) ?_
  refine x_cvi (y := nI 0) (by rfl) ?_
  refine lv_istore_n (lv' := [(3, .int (nI 0)), (2, .int (-6)), (0, .long (lN m))]) hx hb dX3_mostOften_4 rfl hl (by decide) rfl (fun ls hl => ?_)
  refine lv_iconst (v := 1) hx hb dX3_mostOften_5 (by decide) ?_
  refine x_cvi (y := nI 1) (by rfl) ?_
  refine lv_istore (lv' := [(4, .int (nI 1)), (3, .int (nI 0)), (2, .int (-6)), (0, .long (lN m))]) hx hb dX3_mostOften_6 hl (by decide) rfl (fun ls hl => ?_)
  have lp8 : ∀ (fu : Nat) (d : Nat) (a : Nat) (w : Int32) (H : Heap) (locs : List Loc) (ls : Array Slot), 61 - d < fu → (1 ≤ d ∧ d ≤ 61) → (moF m (d - 1) = (a, w)) → WS G A s.heap H locs [] → lv_has ls 6 [(0, .long (lN m)), (2, .int w), (3, .int (nI a)), (4, .int (nI d))] → W p l e ({ frames := 2, cells := 0, slots := 0, locals := 43 } : Room) s mt ([.long (lN m)] : List Value).toArray below meth c H locs 0 0 Q (F0 mt 8 ls []) := by
    intro fu
    induction fu with
    | zero =>
      intro d a w H locs ls hmu
      exact absurd hmu (Nat.not_lt_zero _)
    | succ fu ih8 =>
      intro d a w H locs ls hmu8 hd ha hw hl
      have hal : a ≤ 64 := by have := moF_le m (d - 1); rw [ha] at this; exact this
      refine lv_iload hx hb dX3_mostOften_8 (lv_at hl 3 rfl) ?_
      refine lv_bipush (v := 60) hx hb dX3_mostOften_10 (by decide) ?_
      refine lv_icmp_gt (tgt := 41) hx hb dX3_mostOften_12 (by decide) (fun c12 => ?_) (fun c12 => ?_)
      · have hk2 : 60 < d := i_lt (by decide) (by omega) c12
        refine lv_iload_n hx hb dX3_mostOften_41 rfl (lv_at hl 1 rfl) ?_
        refine hret _ _ _ _ _ _ dX3_mostOften_42 hw ?_
        exact congrArg (fun z => some (Value.int z)) (by rw [show d - 1 = 60 by omega] at ha; unfold moN; rw [ha])
      · have hk2 : d ≤ 60 := i_nlt (by decide) (by omega) c12
        refine lv_lload_n hx hb dX3_mostOften_15 rfl (lv_at hl 0 rfl) ?_
        refine lv_iload hx hb dX3_mostOften_16 (lv_at hl 3 rfl) ?_
        refine xcP (n := 2) (As := [.long (lN m), .int (nI d)]) (rest := []) X hw (c_X3_often l G m (nI d) hm) gX3_mostOften_X3_often rfl ⟨rfl, rfl⟩ (by decide +kernel) ⟨by decide, by decide⟩ rfl hl.1 rfl (Nat.le_of_ble_eq_true rfl) dX3_mostOften_18 ⟨by decide, by decide⟩ (fun r w1 H locs hp hw => ?_)
        obtain rfl := hp
        refine W.eq (g2 := F0 mt 21 ls [.int (nI (ofX m (nI d)))]) rfl ?_
        rw [ofX_nI hd.1 hk2]
        refine lv_istore (lv' := [(5, .int (nI (ofN m d))), (0, .long (lN m)), (2, .int w), (3, .int (nI a)), (4, .int (nI d))]) hx hb dX3_mostOften_21 hl (by decide) rfl (fun ls hl => ?_)
        refine lv_iload hx hb dX3_mostOften_23 (lv_at hl 0 rfl) ?_
        refine lv_iload_n hx hb dX3_mostOften_25 rfl (lv_at hl 3 rfl) ?_
        refine lv_icmp_le (tgt := 35) hx hb dX3_mostOften_26 (by decide) (fun c26 => ?_) (fun c26 => ?_)
        · have hz : ¬ a < ofN m d := Nat.not_lt.mpr (i_le (Nat.lt_of_le_of_lt (ofN_le _ _) (by decide)) (by omega) c26)
          refine lv_iinc (v := nI (d + 1)) (lv' := [(4, .int (nI (d + 1))), (5, .int (nI (ofN m d))), (0, .long (lN m)), (2, .int w), (3, .int (nI a))]) hx hb dX3_mostOften_35 hl (k := 4) rfl (by exact nI_1 _) (by decide) rfl (fun ls hl => ?_)
          refine lv_goto (tgt := 8) hx hb dX3_mostOften_38 (by decide) ?_
          exact ih8 (d + 1) a w _ _ _ (by omega) (by omega) (by have hs : moF m (d - 1 + 1) = _ := rfl; rw [show d + 1 - 1 = d - 1 + 1 by omega]; unfold moF; rw [ha, show d - 1 + 1 = d by omega]; simp [hz]) hw (lv_sub hl [2, 3, 4, 0] rfl)
        · have hz : a < ofN m d := i_nle (Nat.lt_of_le_of_lt (ofN_le _ _) (by decide)) (by omega) c26
          refine lv_iload hx hb dX3_mostOften_29 (lv_at hl 0 rfl) ?_
          refine lv_istore_n (lv' := [(3, .int (nI (ofN m d))), (5, .int (nI (ofN m d))), (0, .long (lN m)), (2, .int w), (4, .int (nI d))]) hx hb dX3_mostOften_31 rfl hl (by decide) rfl (fun ls hl => ?_)
          refine lv_iload hx hb dX3_mostOften_32 (lv_at hl 4 rfl) ?_
          refine lv_istore_n (lv' := [(2, .int (nI d)), (3, .int (nI (ofN m d))), (5, .int (nI (ofN m d))), (0, .long (lN m)), (4, .int (nI d))]) hx hb dX3_mostOften_34 rfl hl (by decide) rfl (fun ls hl => ?_)
          refine lv_iinc (v := nI (d + 1)) (lv' := [(4, .int (nI (d + 1))), (2, .int (nI d)), (3, .int (nI (ofN m d))), (5, .int (nI (ofN m d))), (0, .long (lN m))]) hx hb dX3_mostOften_35 hl (k := 4) rfl (by exact nI_1 _) (by decide) rfl (fun ls hl => ?_)
          refine lv_goto (tgt := 8) hx hb dX3_mostOften_38 (by decide) ?_
          exact ih8 (d + 1) (ofN m d) (nI d) _ _ _ (by omega) (by omega) (by have hs : moF m (d - 1 + 1) = _ := rfl; rw [show d + 1 - 1 = d - 1 + 1 by omega]; unfold moF; rw [ha, show d - 1 + 1 = d by omega]; simp [hz]) hw (lv_sub hl [4, 1, 2, 0] rfl)
  exact lp8 _ 1 0 (-6) _ _ _ (Nat.lt_succ_self _) (by decide) (rfl) hw (lv_sub hl [3, 2, 1, 0] rfl)
