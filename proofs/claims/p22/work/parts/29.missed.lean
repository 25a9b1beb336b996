set_option maxHeartbeats 4000000 in
set_option maxRecDepth 100000 in
theorem c_X7_mostMissedOf (l : Launch) (G : GG) (xo : Nat) (i1 : Nat) (i2 : Nat) (ru : Nat) (co : Nat) (ik : Int32) (un : Int32) (tp : Int32) (g : Nat) (d : Nat) (e0 : Nat) (k0 : Nat) (m : Nat) (er : Nat → Int32) (sk : Nat → Int32) (so : Nat) (hm : m < 2 ^ 61) (hso : so < 2 ^ 61) : CT l G yX7_mostMissedOf wsX7_mostMissedOf ({ frames := 4, cells := 0, slots := 0, locals := 87 } : Room) [.ref xo, .long (lN so)] [(xo, .inr (4, [.ref d, .ref i1, .ref i2, .ref g, .ref ru, .ref co, .int ik, .int un, .int tp])), (d, .inr (0, [.long (lN m), .ref e0, .ref k0])), (e0, .inl (G.2.1, 61, .inl er)), (k0, .inl (G.2.1, 61, .inl sk))] (fun r w => r = some (.int (mmA m so)) ∧ w = [(xo, .inr (4, [.ref d, .ref i1, .ref i2, .ref g, .ref ru, .ref co, .int ik, .int un, .int tp])), (d, .inr (0, [.long (lN m), .ref e0, .ref k0])), (e0, .inl (G.2.1, 61, .inl er)), (k0, .inl (G.2.1, 61, .inl sk))]) 0 0 := by
  refine ct_i (cc := cX7_mostMissedOf) (maxL := 7) (by decide +kernel) rfl (Nat.le_of_ble_eq_true rfl) ?_
  intro p e s mt below meth c A Q X hw hret ls hl
  obtain ⟨hx, hb, -⟩ := id X
  have hl : lv_has ls 7 [(0, .ref xo), (1, .long (lN so))] := hl
  refine lv_bipush (v := (-6)) hx hb dX7_mostMissedOf_0 (by decide) ?_
  refine lv_istore_n (lv' := [(3, .int (-6)), (0, .ref xo), (1, .long (lN so))]) hx hb dX7_mostMissedOf_2 rfl hl (by decide) rfl (fun ls hl => ?_)
  refine lv_bipush (v := 61) hx hb dX7_mostMissedOf_3 (by decide) ?_
  refine x_cvi (y := nI 61) (by rfl) ?_
  refine lv_istore (lv' := [(4, .int (nI 61)), (3, .int (-6)), (0, .ref xo), (1, .long (lN so))]) hx hb dX7_mostMissedOf_5 hl (by decide) rfl (fun ls hl => ?_)
  refine lv_iconst (v := 0) hx hb dX7_mostMissedOf_7 (by decide) ?_
  refine x_cvi (y := nI 0) (by rfl) ?_
  refine lv_istore (lv' := [(5, .int (nI 0)), (4, .int (nI 61)), (3, .int (-6)), (0, .ref xo), (1, .long (lN so))]) hx hb dX7_mostMissedOf_8 hl (by decide) rfl (fun ls hl => ?_)
  have lp10 : ∀ (fu : Nat) (q : Nat) (le : Nat) (mo : Int32) (H : Heap) (locs : List Loc) (ls : Array Slot), 61 - q < fu → (q ≤ 61) → (le ≤ 61) → (mmF m so (61 - q) q le mo = mmA m so) → WS G A s.heap H locs [(xo, .inr (4, [.ref d, .ref i1, .ref i2, .ref g, .ref ru, .ref co, .int ik, .int un, .int tp])), (d, .inr (0, [.long (lN m), .ref e0, .ref k0])), (e0, .inl (G.2.1, 61, .inl er)), (k0, .inl (G.2.1, 61, .inl sk))] → lv_has ls 7 [(0, .ref xo), (1, .long (lN so)), (3, .int mo), (4, .int (nI le)), (5, .int (nI q))] → W p l e ({ frames := 4, cells := 0, slots := 0, locals := 87 } : Room) s mt ([.ref xo, .long (lN so)] : List Value).toArray below meth c H locs 0 0 Q (F0 mt 10 ls []) := by
    intro fu
    induction fu with
    | zero =>
      intro q le mo H locs ls hmu
      exact absurd hmu (Nat.not_lt_zero _)
    | succ fu ih10 =>
      intro q le mo H locs ls hmu10 hq hle hR hw hl
      refine lv_iload hx hb dX7_mostMissedOf_10 (lv_at hl 4 rfl) ?_
      refine lv_bipush (v := 60) hx hb dX7_mostMissedOf_12 (by decide) ?_
      refine lv_icmp_gt (tgt := 63) hx hb dX7_mostMissedOf_14 (by decide) (fun c14 => ?_) (fun c14 => ?_)
      · have hk2 : 60 < q := i_lt (by decide) (by omega) c14
        refine lv_iload_n hx hb dX7_mostMissedOf_63 rfl (lv_at hl 2 rfl) ?_
        refine hret _ _ _ _ _ _ dX7_mostMissedOf_64 hw ?_
        exact ⟨congrArg (fun z => some (Value.int z)) (by rw [show 61 - q = 0 by omega] at hR; exact hR), rfl⟩
      · have hk2 : q ≤ 60 := i_nlt (by decide) (by omega) c14
        refine lv_lload_n hx hb dX7_mostMissedOf_17 rfl (lv_at hl 1 rfl) ?_
        refine lv_iload hx hb dX7_mostMissedOf_18 (lv_at hl 4 rfl) ?_
        refine xcP (n := 2) (As := [.long (lN so), .int (nI q)]) (rest := []) X hw (c_X3_has l G so (nI q) hso) gX7_mostMissedOf_X3_has rfl ⟨rfl, rfl⟩ (by decide +kernel) ⟨by decide, by decide⟩ rfl hl.1 rfl (Nat.le_of_ble_eq_true rfl) dX7_mostMissedOf_20 ⟨by decide, by decide⟩ (fun r w1 H locs hp hw => ?_)
        obtain rfl := hp
        refine W.eq (g2 := F0 mt 23 ls [.int (bi (stn so (nI q)))]) rfl ?_
        refine lv_if_ne (tgt := 29) hx hb dX7_mostMissedOf_23 (by decide) (fun c23 => ?_) (fun c23 => ?_)
        · have hbt : so.testBit q = true := by rw [← stn_nI hk2]; exact bi_t c23
          refine lv_aload_n hx hb dX7_mostMissedOf_29 rfl (lv_at hl 0 rfl) ?_
          refine xg X hw (C := RX7) (T := TX7) (N := 9) (by decide +kernel) 0 rfl rfl 0 (by decide) rfl (by decide +kernel) rfl dX7_mostMissedOf_30 ?_
          refine xcV (n := 0) (As := []) (rest := []) (wc := [(d, .inr (0, [.long (lN m), .ref e0, .ref k0])), (e0, .inl (G.2.1, 61, .inl er)), (k0, .inl (G.2.1, 61, .inl sk))]) (wr := [(xo, .inr (4, [.ref d, .ref i1, .ref i2, .ref g, .ref ru, .ref co, .int ik, .int un, .int tp]))]) X hw (c_X1_line l G d e0 k0 m er sk ) (C := RX1) gX7_mostMissedOf_X1_line (q0 := 1) rfl rfl rfl ⟨rfl, rfl⟩ (by decide +kernel) ⟨by decide, by decide⟩ rfl hl.1 rfl (Nat.le_of_ble_eq_true rfl) dX7_mostMissedOf_33 ⟨by decide, by decide⟩ [1, 2, 3] [0] rfl rfl rfl rfl (by decide) (fun r w1 H locs hp hw => ?_)
          obtain ⟨rfl, rfl⟩ := hp
          have hw := hw.sub (ws' := [(xo, .inr (4, [.ref d, .ref i1, .ref i2, .ref g, .ref ru, .ref co, .int ik, .int un, .int tp])), (d, .inr (0, [.long (lN m), .ref e0, .ref k0])), (e0, .inl (G.2.1, 61, .inl er)), (k0, .inl (G.2.1, 61, .inl sk))]) [0, 1, 2, 3] rfl rfl
          refine W.eq (g2 := F0 mt 36 ls [.long (lN m)]) rfl ?_
          refine lv_iload hx hb dX7_mostMissedOf_36 (lv_at hl 4 rfl) ?_
          refine xcP (n := 2) (As := [.long (lN m), .int (nI q)]) (rest := []) X hw (c_X3_reachWithout l G m (nI q) hm) gX7_mostMissedOf_X3_reachWithout rfl ⟨rfl, rfl⟩ (by decide +kernel) ⟨by decide, by decide⟩ rfl hl.1 rfl (Nat.le_of_ble_eq_true rfl) dX7_mostMissedOf_38 ⟨by decide, by decide⟩ (fun r w1 H locs hp hw => ?_)
          obtain rfl := hp
          refine W.eq (g2 := F0 mt 41 ls [.int (nI (reN (woN m (bitO (nI q)))))]) rfl ?_
          refine x_cvi (y := nI (reN (woN m (2 ^ q)))) (by rw [bitO_nI hk2]) ?_
          refine lv_istore (lv' := [(6, .int (nI (reN (woN m (2 ^ q))))), (0, .ref xo), (1, .long (lN so)), (3, .int mo), (4, .int (nI le)), (5, .int (nI q))]) hx hb dX7_mostMissedOf_41 hl (by decide) rfl (fun ls hl => ?_)
          refine lv_iload hx hb dX7_mostMissedOf_43 (lv_at hl 0 rfl) ?_
          refine lv_iload hx hb dX7_mostMissedOf_45 (lv_at hl 4 rfl) ?_
          refine lv_icmp_ge (tgt := 57) hx hb dX7_mostMissedOf_47 (by decide) (fun c47 => ?_) (fun c47 => ?_)
          · have hre := reN_le (woN m (2 ^ q))
            have hge : le ≤ reN (woN m (2 ^ q)) := i_le (by omega) (by omega) c47
            refine lv_iinc (v := nI (q + 1)) (lv' := [(5, .int (nI (q + 1))), (6, .int (nI (reN (woN m (2 ^ q))))), (0, .ref xo), (1, .long (lN so)), (3, .int mo), (4, .int (nI le))]) hx hb dX7_mostMissedOf_57 hl (k := 5) rfl (by exact nI_1 _) (by decide) rfl (fun ls hl => ?_)
            refine lv_goto (tgt := 10) hx hb dX7_mostMissedOf_60 (by decide) ?_
            exact ih10 (q + 1) le mo _ _ _ (by omega) (by omega) (by omega) (by rw [show 61 - q = (61 - (q + 1)) + 1 by omega, mmF_s] at hR; first | (rw [if_neg (by rw [hbt]; decide)] at hR; exact hR) | (rw [if_pos hbt, if_neg (show ¬ reN (woN m (2 ^ q)) < le by omega)] at hR; exact hR)) hw (lv_sub hl [2, 3, 4, 5, 0] rfl)
          · have hre := reN_le (woN m (2 ^ q))
            have hge : reN (woN m (2 ^ q)) < le := i_nle (by omega) (by omega) c47
            refine lv_iload hx hb dX7_mostMissedOf_50 (lv_at hl 0 rfl) ?_
            refine lv_istore (lv' := [(4, .int (nI (reN (woN m (2 ^ q))))), (6, .int (nI (reN (woN m (2 ^ q))))), (0, .ref xo), (1, .long (lN so)), (3, .int mo), (5, .int (nI q))]) hx hb dX7_mostMissedOf_52 hl (by decide) rfl (fun ls hl => ?_)
            refine lv_iload hx hb dX7_mostMissedOf_54 (lv_at hl 5 rfl) ?_
            refine lv_istore_n (lv' := [(3, .int (nI q)), (4, .int (nI (reN (woN m (2 ^ q))))), (6, .int (nI (reN (woN m (2 ^ q))))), (0, .ref xo), (1, .long (lN so)), (5, .int (nI q))]) hx hb dX7_mostMissedOf_56 rfl hl (by decide) rfl (fun ls hl => ?_)
            refine lv_iinc (v := nI (q + 1)) (lv' := [(5, .int (nI (q + 1))), (3, .int (nI q)), (4, .int (nI (reN (woN m (2 ^ q))))), (6, .int (nI (reN (woN m (2 ^ q))))), (0, .ref xo), (1, .long (lN so))]) hx hb dX7_mostMissedOf_57 hl (k := 5) rfl (by exact nI_1 _) (by decide) rfl (fun ls hl => ?_)
            refine lv_goto (tgt := 10) hx hb dX7_mostMissedOf_60 (by decide) ?_
            exact ih10 (q + 1) (reN (woN m (2 ^ q))) (nI q) _ _ _ (by omega) (by omega) (by omega) (by rw [show 61 - q = (61 - (q + 1)) + 1 by omega, mmF_s] at hR; rw [if_pos hbt, if_pos hge] at hR; exact hR) hw (lv_sub hl [4, 5, 1, 2, 0] rfl)
        · have hbt : so.testBit q = false := by rw [← stn_nI hk2]; exact bi_f c23
          refine lv_goto (tgt := 57) hx hb dX7_mostMissedOf_26 (by decide) ?_
          refine lv_iinc (v := nI (q + 1)) (lv' := [(5, .int (nI (q + 1))), (0, .ref xo), (1, .long (lN so)), (3, .int mo), (4, .int (nI le))]) hx hb dX7_mostMissedOf_57 hl (k := 4) rfl (by exact nI_1 _) (by decide) rfl (fun ls hl => ?_)
          refine lv_goto (tgt := 10) hx hb dX7_mostMissedOf_60 (by decide) ?_
          exact ih10 (q + 1) le mo _ _ _ (by omega) (by omega) (by omega) (by rw [show 61 - q = (61 - (q + 1)) + 1 by omega, mmF_s] at hR; first | (rw [if_neg (by rw [hbt]; decide)] at hR; exact hR) | (rw [if_pos hbt, if_neg (show ¬ reN (woN m (2 ^ q)) < le by omega)] at hR; exact hR)) hw (lv_sub hl [1, 2, 3, 4, 0] rfl)
  exact lp10 _ 0 61 (-6) _ _ _ (Nat.lt_succ_self _) (by decide) (by decide) (rfl) hw (lv_sub hl [3, 4, 2, 1, 0] rfl)

set_option maxHeartbeats 4000000 in
set_option maxRecDepth 100000 in
theorem c_X7_missed (l : Launch) (G : GG) (xo : Nat) (i1 : Nat) (i2 : Nat) (ru : Nat) (co : Nat) (ik : Int32) (un : Int32) (tp : Int32) (g : Nat) (d : Nat) (e0 : Nat) (k0 : Nat) (m : Nat) (er : Nat → Int32) (sk : Nat → Int32) (i : Int32) (hm : m < 2 ^ 61) : CT l G yX7_missed wsX7_missed ({ frames := 5, cells := 0, slots := 0, locals := 113 } : Room) [.ref xo, .int i] [(xo, .inr (4, [.ref d, .ref i1, .ref i2, .ref g, .ref ru, .ref co, .int ik, .int un, .int tp])), (d, .inr (0, [.long (lN m), .ref e0, .ref k0])), (e0, .inl (G.2.1, 61, .inl er)), (k0, .inl (G.2.1, 61, .inl sk))] (fun r w => r = some (.int (misR m i)) ∧ w = [(xo, .inr (4, [.ref d, .ref i1, .ref i2, .ref g, .ref ru, .ref co, .int ik, .int un, .int tp])), (d, .inr (0, [.long (lN m), .ref e0, .ref k0])), (e0, .inl (G.2.1, 61, .inl er)), (k0, .inl (G.2.1, 61, .inl sk))]) 0 0 := by
  refine ct_i (cc := cX7_missed) (maxL := 5) (by decide +kernel) rfl (Nat.le_of_ble_eq_true rfl) ?_
  intro p e s mt below meth c A Q X hw hret ls hl
  obtain ⟨hx, hb, -⟩ := id X
  have hl : lv_has ls 5 [(0, .ref xo), (1, .int i)] := hl
  refine lv_iload_n hx hb dX7_missed_0 rfl (lv_at hl 1 rfl) ?_
  refine lv_if_lt (tgt := 15) hx hb dX7_missed_1 (by decide) (fun c1 => ?_) (fun c1 => ?_)
  · skip
    refine lv_bipush (v := (-6)) hx hb dX7_missed_15 (by decide) ?_
    refine hret _ _ _ _ _ _ dX7_missed_17 hw ?_
    exact ⟨congrArg (fun z => some (Value.int z)) (by unfold misR; rw [if_neg (fun q => by first | exact absurd c1 (Int32.not_lt.mpr q.1) | exact c12 q.2)]), rfl⟩
  · obtain ⟨j, hj, hij⟩ := nI_of c1
    refine lv_iload_n hx hb dX7_missed_4 rfl (lv_at hl 1 rfl) ?_
    refine lv_aload_n hx hb dX7_missed_5 rfl (lv_at hl 0 rfl) ?_
    refine xg X hw (C := RX7) (T := TX7) (N := 9) (by decide +kernel) 0 rfl rfl 0 (by decide) rfl (by decide +kernel) rfl dX7_missed_6 ?_
    refine xcV (n := 0) (As := []) (rest := [.int i]) (wc := [(d, .inr (0, [.long (lN m), .ref e0, .ref k0])), (e0, .inl (G.2.1, 61, .inl er)), (k0, .inl (G.2.1, 61, .inl sk))]) (wr := [(xo, .inr (4, [.ref d, .ref i1, .ref i2, .ref g, .ref ru, .ref co, .int ik, .int un, .int tp]))]) X hw (c_X1_count l G d e0 k0 m er sk hm) (C := RX1) gX7_missed_X1_count (q0 := 1) rfl rfl rfl ⟨rfl, rfl⟩ (by decide +kernel) ⟨by decide, by decide⟩ rfl hl.1 rfl (Nat.le_of_ble_eq_true rfl) dX7_missed_9 ⟨by decide, by decide⟩ [1, 2, 3] [0] rfl rfl rfl rfl (by decide) (fun r w1 H locs hp hw => ?_)
    obtain ⟨rfl, rfl⟩ := hp
    have hw := hw.sub (ws' := [(xo, .inr (4, [.ref d, .ref i1, .ref i2, .ref g, .ref ru, .ref co, .int ik, .int un, .int tp])), (d, .inr (0, [.long (lN m), .ref e0, .ref k0])), (e0, .inl (G.2.1, 61, .inl er)), (k0, .inl (G.2.1, 61, .inl sk))]) [0, 1, 2, 3] rfl rfl
    refine W.eq (g2 := F0 mt 12 ls [.int (nI (pcN 64 m)), .int i]) rfl ?_
    refine lv_icmp_lt (tgt := 18) hx hb dX7_missed_12 (by decide) (fun c12 => ?_) (fun c12 => ?_)
    · skip
      refine lv_aload_n hx hb dX7_missed_18 rfl (lv_at hl 0 rfl) ?_
      refine xg X hw (C := RX7) (T := TX7) (N := 9) (by decide +kernel) 0 rfl rfl 0 (by decide) rfl (by decide +kernel) rfl dX7_missed_19 ?_
      refine xcV (n := 0) (As := []) (rest := []) (wc := [(d, .inr (0, [.long (lN m), .ref e0, .ref k0])), (e0, .inl (G.2.1, 61, .inl er)), (k0, .inl (G.2.1, 61, .inl sk))]) (wr := [(xo, .inr (4, [.ref d, .ref i1, .ref i2, .ref g, .ref ru, .ref co, .int ik, .int un, .int tp]))]) X hw (c_X1_line l G d e0 k0 m er sk ) (C := RX1) gX7_missed_X1_line (q0 := 1) rfl rfl rfl ⟨rfl, rfl⟩ (by decide +kernel) ⟨by decide, by decide⟩ rfl hl.1 rfl (Nat.le_of_ble_eq_true rfl) dX7_missed_22 ⟨by decide, by decide⟩ [1, 2, 3] [0] rfl rfl rfl rfl (by decide) (fun r w1 H locs hp hw => ?_)
      obtain ⟨rfl, rfl⟩ := hp
      have hw := hw.sub (ws' := [(xo, .inr (4, [.ref d, .ref i1, .ref i2, .ref g, .ref ru, .ref co, .int ik, .int un, .int tp])), (d, .inr (0, [.long (lN m), .ref e0, .ref k0])), (e0, .inl (G.2.1, 61, .inl er)), (k0, .inl (G.2.1, 61, .inl sk))]) [0, 1, 2, 3] rfl rfl
      refine W.eq (g2 := F0 mt 25 ls [.long (lN m)]) rfl ?_
      refine lv_lstore_n (lv' := [(2, .long (lN m)), (0, .ref xo), (1, .int i)]) hx hb dX7_missed_25 rfl hl (by decide) rfl (fun ls hl => ?_)
      refine lv_iconst (v := 0) hx hb dX7_missed_26 (by decide) ?_
      refine x_cvi (y := nI 0) (by rfl) ?_
      refine lv_istore (lv' := [(4, .int (nI 0)), (2, .long (lN m)), (0, .ref xo), (1, .int i)]) hx hb dX7_missed_27 hl (by decide) rfl (fun ls hl => ?_)
      have lp29 : ∀ (fu : Nat) (a : Nat) (ny : Nat) (H : Heap) (locs : List Loc) (ls : Array Slot), 12 - a < fu → (a ≤ 12) → (a ≤ j) → (ny < 2 ^ 61) → (miF m (min j 12 - a) ny = miF m (min j 12) m) → WS G A s.heap H locs [(xo, .inr (4, [.ref d, .ref i1, .ref i2, .ref g, .ref ru, .ref co, .int ik, .int un, .int tp])), (d, .inr (0, [.long (lN m), .ref e0, .ref k0])), (e0, .inl (G.2.1, 61, .inl er)), (k0, .inl (G.2.1, 61, .inl sk))] → lv_has ls 5 [(0, .ref xo), (1, .int i), (2, .long (lN ny)), (4, .int (nI a))] → W p l e ({ frames := 5, cells := 0, slots := 0, locals := 113 } : Room) s mt ([.ref xo, .int i] : List Value).toArray below meth c H locs 0 0 Q (F0 mt 29 ls []) := by
        intro fu
        induction fu with
        | zero =>
          intro a ny H locs ls hmu
          exact absurd hmu (Nat.not_lt_zero _)
        | succ fu ih29 =>
          intro a ny H locs ls hmu29 ha haj hny hR hw hl
          refine lv_iload hx hb dX7_missed_29 (lv_at hl 3 rfl) ?_
          refine lv_iload_n hx hb dX7_missed_31 rfl (lv_at hl 1 rfl) ?_
          refine lv_icmp_ge (tgt := 63) hx hb dX7_missed_32 (by decide) (fun c32 => ?_) (fun c32 => ?_)
          · have ha2 : j ≤ a := by rw [hij] at c32; exact i_le hj (by omega) c32
            refine lv_aload_n hx hb dX7_missed_63 rfl (lv_at hl 0 rfl) ?_
            refine lv_lload_n hx hb dX7_missed_64 rfl (lv_at hl 2 rfl) ?_
            refine xcV (n := 1) (As := [.long (lN ny)]) (rest := []) (wc := [(xo, .inr (4, [.ref d, .ref i1, .ref i2, .ref g, .ref ru, .ref co, .int ik, .int un, .int tp])), (d, .inr (0, [.long (lN m), .ref e0, .ref k0])), (e0, .inl (G.2.1, 61, .inl er)), (k0, .inl (G.2.1, 61, .inl sk))]) (wr := []) X hw (c_X7_mostMissedOf l G xo i1 i2 ru co ik un tp g d e0 k0 m er sk ny hm hny) (C := RX7) gX7_missed_X7_mostMissedOf (q0 := 0) rfl rfl rfl ⟨rfl, rfl⟩ (by decide +kernel) ⟨by decide, by decide⟩ rfl hl.1 rfl (Nat.le_of_ble_eq_true rfl) dX7_missed_65 ⟨by decide, by decide⟩ [0, 1, 2, 3] [] rfl rfl rfl rfl (by decide) (fun r w1 H locs hp hw => ?_)
            obtain ⟨rfl, rfl⟩ := hp
            have hw := hw.sub (ws' := [(xo, .inr (4, [.ref d, .ref i1, .ref i2, .ref g, .ref ru, .ref co, .int ik, .int un, .int tp])), (d, .inr (0, [.long (lN m), .ref e0, .ref k0])), (e0, .inl (G.2.1, 61, .inl er)), (k0, .inl (G.2.1, 61, .inl sk))]) [0, 1, 2, 3] rfl rfl
            refine W.eq (g2 := F0 mt 68 ls [.int (mmA m ny)]) rfl ?_
            refine hret _ _ _ _ _ _ dX7_missed_68 hw ?_
            exact ⟨congrArg (fun z => some (Value.int z)) (by exact mis_end hij hj c12 hR (by omega)), rfl⟩
          · have ha2 : a < j := by rw [hij] at c32; exact i_nle hj (by omega) c32
            refine lv_iload hx hb dX7_missed_35 (lv_at hl 3 rfl) ?_
            refine lv_bipush (v := 12) hx hb dX7_missed_37 (by decide) ?_
            refine lv_icmp_ge (tgt := 63) hx hb dX7_missed_39 (by decide) (fun c39 => ?_) (fun c39 => ?_)
            · have ha3 : 12 ≤ a := i_le (a := 12) (by decide) (by omega) c39
              refine lv_aload_n hx hb dX7_missed_63 rfl (lv_at hl 0 rfl) ?_
              refine lv_lload_n hx hb dX7_missed_64 rfl (lv_at hl 2 rfl) ?_
              refine xcV (n := 1) (As := [.long (lN ny)]) (rest := []) (wc := [(xo, .inr (4, [.ref d, .ref i1, .ref i2, .ref g, .ref ru, .ref co, .int ik, .int un, .int tp])), (d, .inr (0, [.long (lN m), .ref e0, .ref k0])), (e0, .inl (G.2.1, 61, .inl er)), (k0, .inl (G.2.1, 61, .inl sk))]) (wr := []) X hw (c_X7_mostMissedOf l G xo i1 i2 ru co ik un tp g d e0 k0 m er sk ny hm hny) (C := RX7) gX7_missed_X7_mostMissedOf (q0 := 0) rfl rfl rfl ⟨rfl, rfl⟩ (by decide +kernel) ⟨by decide, by decide⟩ rfl hl.1 rfl (Nat.le_of_ble_eq_true rfl) dX7_missed_65 ⟨by decide, by decide⟩ [0, 1, 2, 3] [] rfl rfl rfl rfl (by decide) (fun r w1 H locs hp hw => ?_)
              obtain ⟨rfl, rfl⟩ := hp
              have hw := hw.sub (ws' := [(xo, .inr (4, [.ref d, .ref i1, .ref i2, .ref g, .ref ru, .ref co, .int ik, .int un, .int tp])), (d, .inr (0, [.long (lN m), .ref e0, .ref k0])), (e0, .inl (G.2.1, 61, .inl er)), (k0, .inl (G.2.1, 61, .inl sk))]) [0, 1, 2, 3] rfl rfl
              refine W.eq (g2 := F0 mt 68 ls [.int (mmA m ny)]) rfl ?_
              refine hret _ _ _ _ _ _ dX7_missed_68 hw ?_
              exact ⟨congrArg (fun z => some (Value.int z)) (by exact mis_end hij hj c12 hR (by omega)), rfl⟩
            · have ha3 : a < 12 := i_nle (a := 12) (by decide) (by omega) c39
              refine lv_lload_n hx hb dX7_missed_42 rfl (lv_at hl 2 rfl) ?_
              refine lv_aload_n hx hb dX7_missed_43 rfl (lv_at hl 0 rfl) ?_
              refine lv_lload_n hx hb dX7_missed_44 rfl (lv_at hl 2 rfl) ?_
              refine xcV (n := 1) (As := [.long (lN ny)]) (rest := [.long (lN ny)]) (wc := [(xo, .inr (4, [.ref d, .ref i1, .ref i2, .ref g, .ref ru, .ref co, .int ik, .int un, .int tp])), (d, .inr (0, [.long (lN m), .ref e0, .ref k0])), (e0, .inl (G.2.1, 61, .inl er)), (k0, .inl (G.2.1, 61, .inl sk))]) (wr := []) X hw (c_X7_mostMissedOf l G xo i1 i2 ru co ik un tp g d e0 k0 m er sk ny hm hny) (C := RX7) gX7_missed_X7_mostMissedOf (q0 := 0) rfl rfl rfl ⟨rfl, rfl⟩ (by decide +kernel) ⟨by decide, by decide⟩ rfl hl.1 rfl (Nat.le_of_ble_eq_true rfl) dX7_missed_45 ⟨by decide, by decide⟩ [0, 1, 2, 3] [] rfl rfl rfl rfl (by decide) (fun r w1 H locs hp hw => ?_)
              obtain ⟨rfl, rfl⟩ := hp
              have hw := hw.sub (ws' := [(xo, .inr (4, [.ref d, .ref i1, .ref i2, .ref g, .ref ru, .ref co, .int ik, .int un, .int tp])), (d, .inr (0, [.long (lN m), .ref e0, .ref k0])), (e0, .inl (G.2.1, 61, .inl er)), (k0, .inl (G.2.1, 61, .inl sk))]) [0, 1, 2, 3] rfl rfl
              refine W.eq (g2 := F0 mt 48 ls [.int (mmA m ny), .long (lN ny)]) rfl ?_
              refine xcP (n := 1) (As := [.int (mmA m ny)]) (rest := [.long (lN ny)]) X hw (c_X3_bit l G (mmA m ny) ) gX7_missed_X3_bit rfl ⟨rfl, rfl⟩ (by decide +kernel) ⟨by decide, by decide⟩ rfl hl.1 rfl (Nat.le_of_ble_eq_true rfl) dX7_missed_48 ⟨by decide, by decide⟩ (fun r w1 H locs hp hw => ?_)
              obtain rfl := hp
              refine W.eq (g2 := F0 mt 51 ls [.long (lN (bitO (mmA m ny))), .long (lN ny)]) rfl ?_
              refine xc2 X (v := (-1)) (by decide +kernel) dX7_missed_51 ?_
              refine lv_lxor hx hb dX7_missed_54 ?_
              refine lv_land hx hb dX7_missed_55 ?_
              refine x_cvl (y := lN (woN ny (bitO (mmA m ny)))) (by exact lN_wo _ _) ?_
              refine lv_lstore_n (lv' := [(2, .long (lN (woN ny (bitO (mmA m ny))))), (0, .ref xo), (1, .int i), (4, .int (nI a))]) hx hb dX7_missed_56 rfl hl (by decide) rfl (fun ls hl => ?_)
              refine lv_iinc (v := nI (a + 1)) (lv' := [(4, .int (nI (a + 1))), (2, .long (lN (woN ny (bitO (mmA m ny))))), (0, .ref xo), (1, .int i)]) hx hb dX7_missed_57 hl (k := 3) rfl (by exact nI_1 _) (by decide) rfl (fun ls hl => ?_)
              refine lv_goto (tgt := 29) hx hb dX7_missed_60 (by decide) ?_
              exact ih29 (a + 1) (woN ny (bitO (mmA m ny))) _ _ _ (by omega) (by omega) (by omega) (wo_lt _ hny) (by rw [show min j 12 - a = (min j 12 - (a + 1)) + 1 by omega] at hR; exact hR) hw (lv_sub hl [2, 3, 1, 0] rfl)
      exact lp29 _ 0 m _ _ _ (Nat.lt_succ_self _) (by decide) (by omega) (hm) (rfl) hw (lv_sub hl [2, 3, 1, 0] rfl)
    · skip
      refine lv_bipush (v := (-6)) hx hb dX7_missed_15 (by decide) ?_
      refine hret _ _ _ _ _ _ dX7_missed_17 hw ?_
      exact ⟨congrArg (fun z => some (Value.int z)) (by unfold misR; rw [if_neg (fun q => by first | exact absurd c1 (Int32.not_lt.mpr q.1) | exact c12 q.2)]), rfl⟩

set_option maxHeartbeats 4000000 in
set_option maxRecDepth 100000 in
theorem c_X7_sure (l : Launch) (G : GG) (xo : Nat) (i1 : Nat) (i2 : Nat) (ru : Nat) (co : Nat) (ik : Int32) (un : Int32) (tp : Int32) (g : Nat) (d : Nat) (e0 : Nat) (k0 : Nat) (m : Nat) (er : Nat → Int32) (sk : Nat → Int32) (hm : m < 2 ^ 61) : CT l G yX7_sure wsX7_sure ({ frames := 5, cells := 0, slots := 0, locals := 113 } : Room) [.ref xo] [(xo, .inr (4, [.ref d, .ref i1, .ref i2, .ref g, .ref ru, .ref co, .int ik, .int un, .int tp])), (d, .inr (0, [.long (lN m), .ref e0, .ref k0])), (e0, .inl (G.2.1, 61, .inl er)), (k0, .inl (G.2.1, 61, .inl sk))] (fun r w => r = some (.int (sureR m)) ∧ w = [(xo, .inr (4, [.ref d, .ref i1, .ref i2, .ref g, .ref ru, .ref co, .int ik, .int un, .int tp])), (d, .inr (0, [.long (lN m), .ref e0, .ref k0])), (e0, .inl (G.2.1, 61, .inl er)), (k0, .inl (G.2.1, 61, .inl sk))]) 0 0 := by
  refine ct_i (cc := cX7_sure) (maxL := 1) (by decide +kernel) rfl (Nat.le_of_ble_eq_true rfl) ?_
  intro p e s mt below meth c A Q X hw hret ls hl
  obtain ⟨hx, hb, -⟩ := id X
  have hl : lv_has ls 1 [(0, .ref xo)] := hl
  refine lv_aload_n hx hb dX7_sure_0 rfl (lv_at hl 0 rfl) ?_
  refine xg X hw (C := RX7) (T := TX7) (N := 9) (by decide +kernel) 0 rfl rfl 0 (by decide) rfl (by decide +kernel) rfl dX7_sure_1 ?_
  refine xcV (n := 0) (As := []) (rest := []) (wc := [(d, .inr (0, [.long (lN m), .ref e0, .ref k0])), (e0, .inl (G.2.1, 61, .inl er)), (k0, .inl (G.2.1, 61, .inl sk))]) (wr := [(xo, .inr (4, [.ref d, .ref i1, .ref i2, .ref g, .ref ru, .ref co, .int ik, .int un, .int tp]))]) X hw (c_X1_count l G d e0 k0 m er sk hm) (C := RX1) gX7_sure_X1_count (q0 := 1) rfl rfl rfl ⟨rfl, rfl⟩ (by decide +kernel) ⟨by decide, by decide⟩ rfl hl.1 rfl (Nat.le_of_ble_eq_true rfl) dX7_sure_4 ⟨by decide, by decide⟩ [1, 2, 3] [0] rfl rfl rfl rfl (by decide) (fun r w1 H locs hp hw => ?_)
  obtain ⟨rfl, rfl⟩ := hp
  have hw := hw.sub (ws' := [(xo, .inr (4, [.ref d, .ref i1, .ref i2, .ref g, .ref ru, .ref co, .int ik, .int un, .int tp])), (d, .inr (0, [.long (lN m), .ref e0, .ref k0])), (e0, .inl (G.2.1, 61, .inl er)), (k0, .inl (G.2.1, 61, .inl sk))]) [0, 1, 2, 3] rfl rfl
  refine W.eq (g2 := F0 mt 7 ls [.int (nI (pcN 64 m))]) rfl ?_
  refine lv_if_ne (tgt := 12) hx hb dX7_sure_7 (by decide) (fun c7 => ?_) (fun c7 => ?_)
  · have h0 : ¬ pcN 64 m = 0 := fun q => c7 (by rw [q]; rfl)
    refine lv_aload_n hx hb dX7_sure_12 rfl (lv_at hl 0 rfl) ?_
    refine xg X hw (C := RX7) (T := TX7) (N := 9) (by decide +kernel) 0 rfl rfl 0 (by decide) rfl (by decide +kernel) rfl dX7_sure_13 ?_
    refine xcV (n := 0) (As := []) (rest := []) (wc := [(d, .inr (0, [.long (lN m), .ref e0, .ref k0])), (e0, .inl (G.2.1, 61, .inl er)), (k0, .inl (G.2.1, 61, .inl sk))]) (wr := [(xo, .inr (4, [.ref d, .ref i1, .ref i2, .ref g, .ref ru, .ref co, .int ik, .int un, .int tp]))]) X hw (c_X1_line l G d e0 k0 m er sk ) (C := RX1) gX7_sure_X1_line (q0 := 1) rfl rfl rfl ⟨rfl, rfl⟩ (by decide +kernel) ⟨by decide, by decide⟩ rfl hl.1 rfl (Nat.le_of_ble_eq_true rfl) dX7_sure_16 ⟨by decide, by decide⟩ [1, 2, 3] [0] rfl rfl rfl rfl (by decide) (fun r w1 H locs hp hw => ?_)
    obtain ⟨rfl, rfl⟩ := hp
    have hw := hw.sub (ws' := [(xo, .inr (4, [.ref d, .ref i1, .ref i2, .ref g, .ref ru, .ref co, .int ik, .int un, .int tp])), (d, .inr (0, [.long (lN m), .ref e0, .ref k0])), (e0, .inl (G.2.1, 61, .inl er)), (k0, .inl (G.2.1, 61, .inl sk))]) [0, 1, 2, 3] rfl rfl
    refine W.eq (g2 := F0 mt 19 ls [.long (lN m)]) rfl ?_
    refine lv_aload_n hx hb dX7_sure_19 rfl (lv_at hl 0 rfl) ?_
    refine lv_aload_n hx hb dX7_sure_20 rfl (lv_at hl 0 rfl) ?_
    refine xg X hw (C := RX7) (T := TX7) (N := 9) (by decide +kernel) 0 rfl rfl 0 (by decide) rfl (by decide +kernel) rfl dX7_sure_21 ?_
    refine xcV (n := 0) (As := []) (rest := [.ref xo, .long (lN m)]) (wc := [(d, .inr (0, [.long (lN m), .ref e0, .ref k0])), (e0, .inl (G.2.1, 61, .inl er)), (k0, .inl (G.2.1, 61, .inl sk))]) (wr := [(xo, .inr (4, [.ref d, .ref i1, .ref i2, .ref g, .ref ru, .ref co, .int ik, .int un, .int tp]))]) X hw (c_X1_line l G d e0 k0 m er sk ) (C := RX1) gX7_sure_X1_line (q0 := 1) rfl rfl rfl ⟨rfl, rfl⟩ (by decide +kernel) ⟨by decide, by decide⟩ rfl hl.1 rfl (Nat.le_of_ble_eq_true rfl) dX7_sure_24 ⟨by decide, by decide⟩ [1, 2, 3] [0] rfl rfl rfl rfl (by decide) (fun r w1 H locs hp hw => ?_)
    obtain ⟨rfl, rfl⟩ := hp
    have hw := hw.sub (ws' := [(xo, .inr (4, [.ref d, .ref i1, .ref i2, .ref g, .ref ru, .ref co, .int ik, .int un, .int tp])), (d, .inr (0, [.long (lN m), .ref e0, .ref k0])), (e0, .inl (G.2.1, 61, .inl er)), (k0, .inl (G.2.1, 61, .inl sk))]) [0, 1, 2, 3] rfl rfl
    refine W.eq (g2 := F0 mt 27 ls [.long (lN m), .ref xo, .long (lN m)]) rfl ?_
    refine xcV (n := 1) (As := [.long (lN m)]) (rest := [.long (lN m)]) (wc := [(xo, .inr (4, [.ref d, .ref i1, .ref i2, .ref g, .ref ru, .ref co, .int ik, .int un, .int tp])), (d, .inr (0, [.long (lN m), .ref e0, .ref k0])), (e0, .inl (G.2.1, 61, .inl er)), (k0, .inl (G.2.1, 61, .inl sk))]) (wr := []) X hw (c_X7_mostMissedOf l G xo i1 i2 ru co ik un tp g d e0 k0 m er sk m hm hm) (C := RX7) gX7_sure_X7_mostMissedOf (q0 := 0) rfl rfl rfl ⟨rfl, rfl⟩ (by decide +kernel) ⟨by decide, by decide⟩ rfl hl.1 rfl (Nat.le_of_ble_eq_true rfl) dX7_sure_27 ⟨by decide, by decide⟩ [0, 1, 2, 3] [] rfl rfl rfl rfl (by decide) (fun r w1 H locs hp hw => ?_)
    obtain ⟨rfl, rfl⟩ := hp
    have hw := hw.sub (ws' := [(xo, .inr (4, [.ref d, .ref i1, .ref i2, .ref g, .ref ru, .ref co, .int ik, .int un, .int tp])), (d, .inr (0, [.long (lN m), .ref e0, .ref k0])), (e0, .inl (G.2.1, 61, .inl er)), (k0, .inl (G.2.1, 61, .inl sk))]) [0, 1, 2, 3] rfl rfl
    refine W.eq (g2 := F0 mt 30 ls [.int (mmA m m), .long (lN m)]) rfl ?_
    refine xcP (n := 2) (As := [.long (lN m), .int (mmA m m)]) (rest := []) X hw (c_X3_reachWithout l G m (mmA m m) hm) gX7_sure_X3_reachWithout rfl ⟨rfl, rfl⟩ (by decide +kernel) ⟨by decide, by decide⟩ rfl hl.1 rfl (Nat.le_of_ble_eq_true rfl) dX7_sure_30 ⟨by decide, by decide⟩ (fun r w1 H locs hp hw => ?_)
    obtain rfl := hp
    refine W.eq (g2 := F0 mt 33 ls [.int (nI (reN (woN m (bitO (mmA m m)))))]) rfl ?_
    refine hret _ _ _ _ _ _ dX7_sure_33 hw ?_
    exact ⟨congrArg (fun z => some (Value.int z)) (by unfold sureR; rw [if_neg h0]), rfl⟩
  · have h0 : pcN 64 m = 0 := i_eq (b := 0) (Nat.lt_of_le_of_lt (pcN_le _ _) (by decide)) (by decide) c7
    refine lv_iconst (v := 0) hx hb dX7_sure_10 (by decide) ?_
    refine hret _ _ _ _ _ _ dX7_sure_11 hw ?_
    exact ⟨congrArg (fun z => some (Value.int z)) (by unfold sureR; rw [if_pos h0]), rfl⟩

set_option maxHeartbeats 4000000 in
set_option maxRecDepth 100000 in
theorem c_X7_imageNamed0 (l : Launch) (G : GG) (xo : Nat) (i1 : Nat) (i2 : Nat) (ru : Nat) (co : Nat) (ik : Int32) (un : Int32) (tp : Int32) (g : Nat) (d : Nat)  : CT l G yX7_imageNamed wsX7_imageNamed ({ frames := 0, cells := 0, slots := 0, locals := 0 } : Room) [.ref xo, .int 0] [(xo, .inr (4, [.ref d, .ref i1, .ref i2, .ref g, .ref ru, .ref co, .int ik, .int un, .int tp]))] (fun r w => r = some (.ref i1) ∧ w = [(xo, .inr (4, [.ref d, .ref i1, .ref i2, .ref g, .ref ru, .ref co, .int ik, .int un, .int tp]))]) 0 0 := by
  refine ct_a (cc := cX7_imageNamed) (maxL := 2) (by decide +kernel) rfl (Nat.le_of_ble_eq_true rfl) ?_
  intro p e s mt below meth c A Q X hw hret ls hl
  obtain ⟨hx, hb, -⟩ := id X
  have hl : lv_has ls 2 [(0, .ref xo), (1, .int 0)] := hl
  refine lv_iload_n hx hb dX7_imageNamed_0 rfl (lv_at hl 1 rfl) ?_
  refine lv_if_ne (tgt := 11) hx hb dX7_imageNamed_1 (by decide) (fun c1 => ?_) (fun c1 => ?_)
  · exact absurd rfl c1
  · skip
    refine lv_aload_n hx hb dX7_imageNamed_4 rfl (lv_at hl 0 rfl) ?_
    refine xg X hw (C := RX7) (T := TX7) (N := 9) (by decide +kernel) 0 rfl rfl 1 (by decide) rfl (by decide +kernel) rfl dX7_imageNamed_5 ?_
    refine lv_goto (tgt := 15) hx hb dX7_imageNamed_8 (by decide) ?_
    refine hret _ _ _ _ _ _ dX7_imageNamed_15 hw ?_
    exact ⟨rfl, rfl⟩

set_option maxHeartbeats 4000000 in
set_option maxRecDepth 100000 in
theorem c_X7_imageNamed1 (l : Launch) (G : GG) (xo : Nat) (i1 : Nat) (i2 : Nat) (ru : Nat) (co : Nat) (ik : Int32) (un : Int32) (tp : Int32) (g : Nat) (d : Nat)  : CT l G yX7_imageNamed wsX7_imageNamed ({ frames := 0, cells := 0, slots := 0, locals := 0 } : Room) [.ref xo, .int 1] [(xo, .inr (4, [.ref d, .ref i1, .ref i2, .ref g, .ref ru, .ref co, .int ik, .int un, .int tp]))] (fun r w => r = some (.ref i2) ∧ w = [(xo, .inr (4, [.ref d, .ref i1, .ref i2, .ref g, .ref ru, .ref co, .int ik, .int un, .int tp]))]) 0 0 := by
  refine ct_a (cc := cX7_imageNamed) (maxL := 2) (by decide +kernel) rfl (Nat.le_of_ble_eq_true rfl) ?_
  intro p e s mt below meth c A Q X hw hret ls hl
  obtain ⟨hx, hb, -⟩ := id X
  have hl : lv_has ls 2 [(0, .ref xo), (1, .int 1)] := hl
  refine lv_iload_n hx hb dX7_imageNamed_0 rfl (lv_at hl 1 rfl) ?_
  refine lv_if_ne (tgt := 11) hx hb dX7_imageNamed_1 (by decide) (fun c1 => ?_) (fun c1 => ?_)
  · skip
    refine lv_aload_n hx hb dX7_imageNamed_11 rfl (lv_at hl 0 rfl) ?_
    refine xg X hw (C := RX7) (T := TX7) (N := 9) (by decide +kernel) 0 rfl rfl 2 (by decide) rfl (by decide +kernel) rfl dX7_imageNamed_12 ?_
    refine hret _ _ _ _ _ _ dX7_imageNamed_15 hw ?_
    exact ⟨rfl, rfl⟩
  · exact absurd c1 (by decide)

set_option maxHeartbeats 4000000 in
set_option maxRecDepth 100000 in
theorem c_X7_image0 (l : Launch) (G : GG) (xo : Nat) (i1 : Nat) (i2 : Nat) (ru : Nat) (co : Nat) (ik : Int32) (un : Int32) (tp : Int32) (g : Nat) (d : Nat) (e0 : Nat) (k0 : Nat) (m : Nat) (er : Nat → Int32) (sk : Nat → Int32) (f1 : Nat) (h1 : Nat) (m1 : Nat) (er1 : Nat → Int32) (sk1 : Nat → Int32)  : CT l G yX7_image wsX7_image ({ frames := 2, cells := 0, slots := 0, locals := 81 } : Room) [.ref xo, .int 0] [(xo, .inr (4, [.ref d, .ref i1, .ref i2, .ref g, .ref ru, .ref co, .int ik, .int un, .int tp])), (d, .inr (0, [.long (lN m), .ref e0, .ref k0])), (e0, .inl (G.2.1, 61, .inl er)), (k0, .inl (G.2.1, 61, .inl sk)), (i1, .inr (0, [.long (lN m1), .ref f1, .ref h1])), (f1, .inl (G.2.1, 61, .inl er1)), (h1, .inl (G.2.1, 61, .inl sk1))] (fun r w => r = some (.int 1) ∧ w = [(xo, .inr (4, [.ref d, .ref i1, .ref i2, .ref g, .ref ru, .ref co, .int (ik ||| 1), .int un, .int tp])), (d, .inr (0, [.long (lN m), .ref e0, .ref k0])), (e0, .inl (G.2.1, 61, .inl er)), (k0, .inl (G.2.1, 61, .inl sk)), (i1, .inr (0, [.long (lN m), .ref f1, .ref h1])), (f1, .inl (G.2.1, 61, .inl er)), (h1, .inl (G.2.1, 61, .inl sk))]) 0 0 := by
  refine ct_i (cc := cX7_image) (maxL := 2) (by decide +kernel) rfl (Nat.le_of_ble_eq_true rfl) ?_
  intro p e s mt below meth c A Q X hw hret ls hl
  obtain ⟨hx, hb, -⟩ := id X
  have hl : lv_has ls 2 [(0, .ref xo), (1, .int 0)] := hl
  refine lv_iload_n hx hb dX7_image_0 rfl (lv_at hl 1 rfl) ?_
  refine xcP (n := 1) (As := [.int 0]) (rest := []) X hw (c_X7_isImage l G 0 ) gX7_image_X7_isImage rfl ⟨rfl, rfl⟩ (by decide +kernel) ⟨by decide, by decide⟩ rfl hl.1 rfl (Nat.le_of_ble_eq_true rfl) dX7_image_1 ⟨by decide, by decide⟩ (fun r w1 H locs hp hw => ?_)
  obtain rfl := hp
  refine W.eq (g2 := F0 mt 4 ls [.int (bi (inG 0))]) rfl ?_
  refine lv_if_ne (tgt := 10) hx hb dX7_image_4 (by decide) (fun c4 => ?_) (fun c4 => ?_)
  · skip
    refine lv_aload_n hx hb dX7_image_10 rfl (lv_at hl 0 rfl) ?_
    refine lv_iload_n hx hb dX7_image_11 rfl (lv_at hl 1 rfl) ?_
    refine xcV (n := 1) (As := [.int 0]) (rest := []) (wc := [(xo, .inr (4, [.ref d, .ref i1, .ref i2, .ref g, .ref ru, .ref co, .int ik, .int un, .int tp]))]) (wr := [(d, .inr (0, [.long (lN m), .ref e0, .ref k0])), (e0, .inl (G.2.1, 61, .inl er)), (k0, .inl (G.2.1, 61, .inl sk)), (i1, .inr (0, [.long (lN m1), .ref f1, .ref h1])), (f1, .inl (G.2.1, 61, .inl er1)), (h1, .inl (G.2.1, 61, .inl sk1))]) X hw (c_X7_imageNamed0 l G xo i1 i2 ru co ik un tp g d ) (C := RX7) gX7_image_X7_imageNamed (q0 := 0) rfl rfl rfl ⟨rfl, rfl⟩ (by decide +kernel) ⟨by decide, by decide⟩ rfl hl.1 rfl (Nat.le_of_ble_eq_true rfl) dX7_image_12 ⟨by decide, by decide⟩ [0] [1, 2, 3, 4, 5, 6] rfl rfl rfl rfl (by decide) (fun r w1 H locs hp hw => ?_)
    obtain ⟨rfl, rfl⟩ := hp
    have hw := hw.sub (ws' := [(xo, .inr (4, [.ref d, .ref i1, .ref i2, .ref g, .ref ru, .ref co, .int ik, .int un, .int tp])), (d, .inr (0, [.long (lN m), .ref e0, .ref k0])), (e0, .inl (G.2.1, 61, .inl er)), (k0, .inl (G.2.1, 61, .inl sk)), (i1, .inr (0, [.long (lN m1), .ref f1, .ref h1])), (f1, .inl (G.2.1, 61, .inl er1)), (h1, .inl (G.2.1, 61, .inl sk1))]) [6, 0, 1, 2, 3, 4, 5] rfl rfl
    refine W.eq (g2 := F0 mt 15 ls [.ref i1]) rfl ?_
    refine lv_aload_n hx hb dX7_image_15 rfl (lv_at hl 0 rfl) ?_
    refine xg X hw (C := RX7) (T := TX7) (N := 9) (by decide +kernel) 0 rfl rfl 0 (by decide) rfl (by decide +kernel) rfl dX7_image_16 ?_
    refine xcV (n := 1) (As := [.ref d]) (rest := []) (wc := [(i1, .inr (0, [.long (lN m1), .ref f1, .ref h1])), (f1, .inl (G.2.1, 61, .inl er1)), (h1, .inl (G.2.1, 61, .inl sk1)), (d, .inr (0, [.long (lN m), .ref e0, .ref k0])), (e0, .inl (G.2.1, 61, .inl er)), (k0, .inl (G.2.1, 61, .inl sk))]) (wr := [(xo, .inr (4, [.ref d, .ref i1, .ref i2, .ref g, .ref ru, .ref co, .int ik, .int un, .int tp]))]) X hw (c_X1_takeAllFrom l G i1 f1 h1 m1 er1 sk1 d e0 k0 m er sk ) (C := RX1) gX7_image_X1_takeAllFrom (q0 := 4) rfl rfl rfl ⟨rfl, rfl⟩ (by decide +kernel) ⟨by decide, by decide⟩ rfl hl.1 rfl (Nat.le_of_ble_eq_true rfl) dX7_image_19 ⟨by decide, by decide⟩ [4, 5, 6, 1, 2, 3] [0] rfl rfl rfl rfl (by decide) (fun r w1 H locs hp hw => ?_)
    obtain ⟨rfl, rfl⟩ := hp
    have hw := hw.sub (ws' := [(xo, .inr (4, [.ref d, .ref i1, .ref i2, .ref g, .ref ru, .ref co, .int ik, .int un, .int tp])), (d, .inr (0, [.long (lN m), .ref e0, .ref k0])), (e0, .inl (G.2.1, 61, .inl er)), (k0, .inl (G.2.1, 61, .inl sk)), (i1, .inr (0, [.long (lN m), .ref f1, .ref h1])), (f1, .inl (G.2.1, 61, .inl er)), (h1, .inl (G.2.1, 61, .inl sk))]) [0, 4, 5, 6, 1, 2, 3] rfl rfl
    refine W.eq (g2 := F0 mt 22 ls []) rfl ?_
    refine lv_aload_n hx hb dX7_image_22 rfl (lv_at hl 0 rfl) ?_
    refine lv_dup hx hb dX7_image_23 rfl ?_
    refine xg X hw (C := RX7) (T := TX7) (N := 9) (by decide +kernel) 0 rfl rfl 6 (by decide) rfl (by decide +kernel) rfl dX7_image_24 ?_
    refine lv_iconst (v := 1) hx hb dX7_image_27 (by decide) ?_
    refine lv_iload_n hx hb dX7_image_28 rfl (lv_at hl 1 rfl) ?_
    refine lv_ishl hx hb dX7_image_29 ?_
    refine x_cvi (y := 1) (by decide) ?_
    refine lv_ior hx hb dX7_image_30 ?_
    refine xp X hw (C := RX7) (ty := .int) (T := TX7) (N := 9) (by decide +kernel) tyX7 tyX7_ok nmX7 0 rfl rfl 6 (by decide) rfl (by decide +kernel) rfl (by decide +kernel) rfl rfl (Nat.le_of_ble_eq_true rfl) dX7_image_31 (ws' := [(xo, .inr (4, [.ref d, .ref i1, .ref i2, .ref g, .ref ru, .ref co, .int (ik ||| 1), .int un, .int tp])), (d, .inr (0, [.long (lN m), .ref e0, .ref k0])), (e0, .inl (G.2.1, 61, .inl er)), (k0, .inl (G.2.1, 61, .inl sk)), (i1, .inr (0, [.long (lN m), .ref f1, .ref h1])), (f1, .inl (G.2.1, 61, .inl er)), (h1, .inl (G.2.1, 61, .inl sk))]) rfl (fun H locs hw => ?_)
    refine lv_iconst (v := 1) hx hb dX7_image_34 (by decide) ?_
    refine hret _ _ _ _ _ _ dX7_image_35 hw ?_
    exact ⟨rfl, rfl⟩
  · exact absurd c4 (by decide)

set_option maxHeartbeats 4000000 in
set_option maxRecDepth 100000 in
theorem c_X7_restore0 (l : Launch) (G : GG) (xo : Nat) (i1 : Nat) (i2 : Nat) (ru : Nat) (co : Nat) (ik : Int32) (un : Int32) (tp : Int32) (d : Nat) (e0 : Nat) (k0 : Nat) (m : Nat) (er : Nat → Int32) (sk : Nat → Int32) (g : Nat) (s0 : Nat) (b0 : Nat) (st : Nat → Int32) (be : Nat → Int32) (nx : Nat) (cn : Nat) (f1 : Nat) (h1 : Nat) (m1 : Nat) (er1 : Nat → Int32) (sk1 : Nat → Int32)  : CT l G yX7_restore wsX7_restore ({ frames := 2, cells := 0, slots := 0, locals := 81 } : Room) [.ref xo, .int 0] [(xo, .inr (4, [.ref d, .ref i1, .ref i2, .ref g, .ref ru, .ref co, .int ik, .int un, .int tp])), (d, .inr (0, [.long (lN m), .ref e0, .ref k0])), (e0, .inl (G.2.1, 61, .inl er)), (k0, .inl (G.2.1, 61, .inl sk)), (g, .inr (2, [.ref s0, .ref b0, .int (nI nx), .int (nI cn)])), (s0, .inl (G.2.1, 16, .inl st)), (b0, .inl (G.2.1, 16, .inl be)), (i1, .inr (0, [.long (lN m1), .ref f1, .ref h1])), (f1, .inl (G.2.1, 61, .inl er1)), (h1, .inl (G.2.1, 61, .inl sk1))] (fun r w => (ik &&& 1 = 0 ∧ r = some (.int (-3)) ∧ w = [(xo, .inr (4, [.ref d, .ref i1, .ref i2, .ref g, .ref ru, .ref co, .int ik, .int un, .int tp])), (d, .inr (0, [.long (lN m), .ref e0, .ref k0])), (e0, .inl (G.2.1, 61, .inl er)), (k0, .inl (G.2.1, 61, .inl sk)), (g, .inr (2, [.ref s0, .ref b0, .int (nI nx), .int (nI cn)])), (s0, .inl (G.2.1, 16, .inl st)), (b0, .inl (G.2.1, 16, .inl be)), (i1, .inr (0, [.long (lN m1), .ref f1, .ref h1])), (f1, .inl (G.2.1, 61, .inl er1)), (h1, .inl (G.2.1, 61, .inl sk1))]) ∨ (¬ ik &&& 1 = 0 ∧ r = some (.int 1) ∧ w = [(xo, .inr (4, [.ref d, .ref i1, .ref i2, .ref g, .ref ru, .ref co, .int ik, .int un, .int tp])), (d, .inr (0, [.long (lN m1), .ref e0, .ref k0])), (e0, .inl (G.2.1, 61, .inl er1)), (k0, .inl (G.2.1, 61, .inl sk1)), (g, .inr (2, [.ref s0, .ref b0, .int (nI nx), .int (nI 0)])), (s0, .inl (G.2.1, 16, .inl st)), (b0, .inl (G.2.1, 16, .inl be)), (i1, .inr (0, [.long (lN m1), .ref f1, .ref h1])), (f1, .inl (G.2.1, 61, .inl er1)), (h1, .inl (G.2.1, 61, .inl sk1))])) 0 0 := by
  refine ct_i (cc := cX7_restore) (maxL := 2) (by decide +kernel) rfl (Nat.le_of_ble_eq_true rfl) ?_
  intro p e s mt below meth c A Q X hw hret ls hl
  obtain ⟨hx, hb, -⟩ := id X
  have hl : lv_has ls 2 [(0, .ref xo), (1, .int 0)] := hl
  refine lv_iload_n hx hb dX7_restore_0 rfl (lv_at hl 1 rfl) ?_
  refine xcP (n := 1) (As := [.int 0]) (rest := []) X hw (c_X7_isImage l G 0 ) gX7_restore_X7_isImage rfl ⟨rfl, rfl⟩ (by decide +kernel) ⟨by decide, by decide⟩ rfl hl.1 rfl (Nat.le_of_ble_eq_true rfl) dX7_restore_1 ⟨by decide, by decide⟩ (fun r w1 H locs hp hw => ?_)
  obtain rfl := hp
  refine W.eq (g2 := F0 mt 4 ls [.int (bi (inG 0))]) rfl ?_
  refine lv_if_ne (tgt := 10) hx hb dX7_restore_4 (by decide) (fun c4 => ?_) (fun c4 => ?_)
  · skip
    refine lv_aload_n hx hb dX7_restore_10 rfl (lv_at hl 0 rfl) ?_
    refine xg X hw (C := RX7) (T := TX7) (N := 9) (by decide +kernel) 0 rfl rfl 6 (by decide) rfl (by decide +kernel) rfl dX7_restore_11 ?_
    refine lv_iconst (v := 1) hx hb dX7_restore_14 (by decide) ?_
    refine lv_iload_n hx hb dX7_restore_15 rfl (lv_at hl 1 rfl) ?_
    refine lv_ishl hx hb dX7_restore_16 ?_
    refine x_cvi (y := 1) (by decide) ?_
    refine lv_iand hx hb dX7_restore_17 ?_
    refine lv_if_ne (tgt := 24) hx hb dX7_restore_18 (by decide) (fun c18 => ?_) (fun c18 => ?_)
    · refine lv_aload_n hx hb dX7_restore_24 rfl (lv_at hl 0 rfl) ?_
      refine xg X hw (C := RX7) (T := TX7) (N := 9) (by decide +kernel) 0 rfl rfl 0 (by decide) rfl (by decide +kernel) rfl dX7_restore_25 ?_
      refine lv_aload_n hx hb dX7_restore_28 rfl (lv_at hl 0 rfl) ?_
      refine lv_iload_n hx hb dX7_restore_29 rfl (lv_at hl 1 rfl) ?_
      refine xcV (n := 1) (As := [.int 0]) (rest := [.ref d]) (wc := [(xo, .inr (4, [.ref d, .ref i1, .ref i2, .ref g, .ref ru, .ref co, .int ik, .int un, .int tp]))]) (wr := [(d, .inr (0, [.long (lN m), .ref e0, .ref k0])), (e0, .inl (G.2.1, 61, .inl er)), (k0, .inl (G.2.1, 61, .inl sk)), (g, .inr (2, [.ref s0, .ref b0, .int (nI nx), .int (nI cn)])), (s0, .inl (G.2.1, 16, .inl st)), (b0, .inl (G.2.1, 16, .inl be)), (i1, .inr (0, [.long (lN m1), .ref f1, .ref h1])), (f1, .inl (G.2.1, 61, .inl er1)), (h1, .inl (G.2.1, 61, .inl sk1))]) X hw (c_X7_imageNamed0 l G xo i1 i2 ru co ik un tp g d ) (C := RX7) gX7_restore_X7_imageNamed (q0 := 0) rfl rfl rfl ⟨rfl, rfl⟩ (by decide +kernel) ⟨by decide, by decide⟩ rfl hl.1 rfl (Nat.le_of_ble_eq_true rfl) dX7_restore_30 ⟨by decide, by decide⟩ [0] [1, 2, 3, 4, 5, 6, 7, 8, 9] rfl rfl rfl rfl (by decide) (fun r w1 H locs hp hw => ?_)
      obtain ⟨rfl, rfl⟩ := hp
      have hw := hw.sub (ws' := [(xo, .inr (4, [.ref d, .ref i1, .ref i2, .ref g, .ref ru, .ref co, .int ik, .int un, .int tp])), (d, .inr (0, [.long (lN m), .ref e0, .ref k0])), (e0, .inl (G.2.1, 61, .inl er)), (k0, .inl (G.2.1, 61, .inl sk)), (g, .inr (2, [.ref s0, .ref b0, .int (nI nx), .int (nI cn)])), (s0, .inl (G.2.1, 16, .inl st)), (b0, .inl (G.2.1, 16, .inl be)), (i1, .inr (0, [.long (lN m1), .ref f1, .ref h1])), (f1, .inl (G.2.1, 61, .inl er1)), (h1, .inl (G.2.1, 61, .inl sk1))]) [9, 0, 1, 2, 3, 4, 5, 6, 7, 8] rfl rfl
      refine W.eq (g2 := F0 mt 33 ls [.ref i1, .ref d]) rfl ?_
      refine xcV (n := 1) (As := [.ref i1]) (rest := []) (wc := [(d, .inr (0, [.long (lN m), .ref e0, .ref k0])), (e0, .inl (G.2.1, 61, .inl er)), (k0, .inl (G.2.1, 61, .inl sk)), (i1, .inr (0, [.long (lN m1), .ref f1, .ref h1])), (f1, .inl (G.2.1, 61, .inl er1)), (h1, .inl (G.2.1, 61, .inl sk1))]) (wr := [(xo, .inr (4, [.ref d, .ref i1, .ref i2, .ref g, .ref ru, .ref co, .int ik, .int un, .int tp])), (g, .inr (2, [.ref s0, .ref b0, .int (nI nx), .int (nI cn)])), (s0, .inl (G.2.1, 16, .inl st)), (b0, .inl (G.2.1, 16, .inl be))]) X hw (c_X1_takeAllFrom l G d e0 k0 m er sk i1 f1 h1 m1 er1 sk1 ) (C := RX1) gX7_restore_X1_takeAllFrom (q0 := 1) rfl rfl rfl ⟨rfl, rfl⟩ (by decide +kernel) ⟨by decide, by decide⟩ rfl hl.1 rfl (Nat.le_of_ble_eq_true rfl) dX7_restore_33 ⟨by decide, by decide⟩ [1, 2, 3, 7, 8, 9] [0, 4, 5, 6] rfl rfl rfl rfl (by decide) (fun r w1 H locs hp hw => ?_)
      obtain ⟨rfl, rfl⟩ := hp
      have hw := hw.sub (ws' := [(xo, .inr (4, [.ref d, .ref i1, .ref i2, .ref g, .ref ru, .ref co, .int ik, .int un, .int tp])), (d, .inr (0, [.long (lN m1), .ref e0, .ref k0])), (e0, .inl (G.2.1, 61, .inl er1)), (k0, .inl (G.2.1, 61, .inl sk1)), (g, .inr (2, [.ref s0, .ref b0, .int (nI nx), .int (nI cn)])), (s0, .inl (G.2.1, 16, .inl st)), (b0, .inl (G.2.1, 16, .inl be)), (i1, .inr (0, [.long (lN m1), .ref f1, .ref h1])), (f1, .inl (G.2.1, 61, .inl er1)), (h1, .inl (G.2.1, 61, .inl sk1))]) [0, 4, 5, 6, 1, 2, 3, 7, 8, 9] rfl rfl
      refine W.eq (g2 := F0 mt 36 ls []) rfl ?_
      refine lv_aload_n hx hb dX7_restore_36 rfl (lv_at hl 0 rfl) ?_
      refine xg X hw (C := RX7) (T := TX7) (N := 9) (by decide +kernel) 0 rfl rfl 3 (by decide) rfl (by decide +kernel) rfl dX7_restore_37 ?_
      refine xcV (n := 0) (As := []) (rest := []) (wc := [(g, .inr (2, [.ref s0, .ref b0, .int (nI nx), .int (nI cn)])), (s0, .inl (G.2.1, 16, .inl st)), (b0, .inl (G.2.1, 16, .inl be))]) (wr := [(xo, .inr (4, [.ref d, .ref i1, .ref i2, .ref g, .ref ru, .ref co, .int ik, .int un, .int tp])), (d, .inr (0, [.long (lN m1), .ref e0, .ref k0])), (e0, .inl (G.2.1, 61, .inl er1)), (k0, .inl (G.2.1, 61, .inl sk1)), (i1, .inr (0, [.long (lN m1), .ref f1, .ref h1])), (f1, .inl (G.2.1, 61, .inl er1)), (h1, .inl (G.2.1, 61, .inl sk1))]) X hw (c_X4_forgetAll l G g s0 b0 st be nx cn ) (C := RX4) gX7_restore_X4_forgetAll (q0 := 4) rfl rfl rfl ⟨rfl, rfl⟩ (by decide +kernel) ⟨by decide, by decide⟩ rfl hl.1 rfl (Nat.le_of_ble_eq_true rfl) dX7_restore_40 ⟨by decide, by decide⟩ [4, 5, 6] [0, 1, 2, 3, 7, 8, 9] rfl rfl rfl rfl (by decide) (fun r w1 H locs hp hw => ?_)
      obtain ⟨rfl, rfl⟩ := hp
      have hw := hw.sub (ws' := [(xo, .inr (4, [.ref d, .ref i1, .ref i2, .ref g, .ref ru, .ref co, .int ik, .int un, .int tp])), (d, .inr (0, [.long (lN m1), .ref e0, .ref k0])), (e0, .inl (G.2.1, 61, .inl er1)), (k0, .inl (G.2.1, 61, .inl sk1)), (g, .inr (2, [.ref s0, .ref b0, .int (nI nx), .int (nI 0)])), (s0, .inl (G.2.1, 16, .inl st)), (b0, .inl (G.2.1, 16, .inl be)), (i1, .inr (0, [.long (lN m1), .ref f1, .ref h1])), (f1, .inl (G.2.1, 61, .inl er1)), (h1, .inl (G.2.1, 61, .inl sk1))]) [0, 1, 2, 3, 7, 8, 9, 4, 5, 6] rfl rfl
      refine W.eq (g2 := F0 mt 43 ls []) rfl ?_
      refine lv_iconst (v := 1) hx hb dX7_restore_43 (by decide) ?_
      refine hret _ _ _ _ _ _ dX7_restore_44 hw ?_
      exact Or.inr ⟨c18, rfl, rfl⟩
    · refine lv_bipush (v := (-3)) hx hb dX7_restore_21 (by decide) ?_
      refine hret _ _ _ _ _ _ dX7_restore_23 hw ?_
      exact Or.inl ⟨c18, rfl, rfl⟩
  · exact absurd c4 (by decide)

set_option maxHeartbeats 4000000 in
set_option maxRecDepth 100000 in
theorem c_X7_image1 (l : Launch) (G : GG) (xo : Nat) (i1 : Nat) (i2 : Nat) (ru : Nat) (co : Nat) (ik : Int32) (un : Int32) (tp : Int32) (g : Nat) (d : Nat) (e0 : Nat) (k0 : Nat) (m : Nat) (er : Nat → Int32) (sk : Nat → Int32) (f2 : Nat) (h2 : Nat) (m2 : Nat) (er2 : Nat → Int32) (sk2 : Nat → Int32)  : CT l G yX7_image wsX7_image ({ frames := 2, cells := 0, slots := 0, locals := 81 } : Room) [.ref xo, .int 1] [(xo, .inr (4, [.ref d, .ref i1, .ref i2, .ref g, .ref ru, .ref co, .int ik, .int un, .int tp])), (d, .inr (0, [.long (lN m), .ref e0, .ref k0])), (e0, .inl (G.2.1, 61, .inl er)), (k0, .inl (G.2.1, 61, .inl sk)), (i2, .inr (0, [.long (lN m2), .ref f2, .ref h2])), (f2, .inl (G.2.1, 61, .inl er2)), (h2, .inl (G.2.1, 61, .inl sk2))] (fun r w => r = some (.int 1) ∧ w = [(xo, .inr (4, [.ref d, .ref i1, .ref i2, .ref g, .ref ru, .ref co, .int (ik ||| 2), .int un, .int tp])), (d, .inr (0, [.long (lN m), .ref e0, .ref k0])), (e0, .inl (G.2.1, 61, .inl er)), (k0, .inl (G.2.1, 61, .inl sk)), (i2, .inr (0, [.long (lN m), .ref f2, .ref h2])), (f2, .inl (G.2.1, 61, .inl er)), (h2, .inl (G.2.1, 61, .inl sk))]) 0 0 := by
  refine ct_i (cc := cX7_image) (maxL := 2) (by decide +kernel) rfl (Nat.le_of_ble_eq_true rfl) ?_
  intro p e s mt below meth c A Q X hw hret ls hl
  obtain ⟨hx, hb, -⟩ := id X
  have hl : lv_has ls 2 [(0, .ref xo), (1, .int 1)] := hl
  refine lv_iload_n hx hb dX7_image_0 rfl (lv_at hl 1 rfl) ?_
  refine xcP (n := 1) (As := [.int 1]) (rest := []) X hw (c_X7_isImage l G 1 ) gX7_image_X7_isImage rfl ⟨rfl, rfl⟩ (by decide +kernel) ⟨by decide, by decide⟩ rfl hl.1 rfl (Nat.le_of_ble_eq_true rfl) dX7_image_1 ⟨by decide, by decide⟩ (fun r w1 H locs hp hw => ?_)
  obtain rfl := hp
  refine W.eq (g2 := F0 mt 4 ls [.int (bi (inG 1))]) rfl ?_
  refine lv_if_ne (tgt := 10) hx hb dX7_image_4 (by decide) (fun c4 => ?_) (fun c4 => ?_)
  · skip
    refine lv_aload_n hx hb dX7_image_10 rfl (lv_at hl 0 rfl) ?_
    refine lv_iload_n hx hb dX7_image_11 rfl (lv_at hl 1 rfl) ?_
    refine xcV (n := 1) (As := [.int 1]) (rest := []) (wc := [(xo, .inr (4, [.ref d, .ref i1, .ref i2, .ref g, .ref ru, .ref co, .int ik, .int un, .int tp]))]) (wr := [(d, .inr (0, [.long (lN m), .ref e0, .ref k0])), (e0, .inl (G.2.1, 61, .inl er)), (k0, .inl (G.2.1, 61, .inl sk)), (i2, .inr (0, [.long (lN m2), .ref f2, .ref h2])), (f2, .inl (G.2.1, 61, .inl er2)), (h2, .inl (G.2.1, 61, .inl sk2))]) X hw (c_X7_imageNamed1 l G xo i1 i2 ru co ik un tp g d ) (C := RX7) gX7_image_X7_imageNamed (q0 := 0) rfl rfl rfl ⟨rfl, rfl⟩ (by decide +kernel) ⟨by decide, by decide⟩ rfl hl.1 rfl (Nat.le_of_ble_eq_true rfl) dX7_image_12 ⟨by decide, by decide⟩ [0] [1, 2, 3, 4, 5, 6] rfl rfl rfl rfl (by decide) (fun r w1 H locs hp hw => ?_)
    obtain ⟨rfl, rfl⟩ := hp
    have hw := hw.sub (ws' := [(xo, .inr (4, [.ref d, .ref i1, .ref i2, .ref g, .ref ru, .ref co, .int ik, .int un, .int tp])), (d, .inr (0, [.long (lN m), .ref e0, .ref k0])), (e0, .inl (G.2.1, 61, .inl er)), (k0, .inl (G.2.1, 61, .inl sk)), (i2, .inr (0, [.long (lN m2), .ref f2, .ref h2])), (f2, .inl (G.2.1, 61, .inl er2)), (h2, .inl (G.2.1, 61, .inl sk2))]) [6, 0, 1, 2, 3, 4, 5] rfl rfl
    refine W.eq (g2 := F0 mt 15 ls [.ref i2]) rfl ?_
    refine lv_aload_n hx hb dX7_image_15 rfl (lv_at hl 0 rfl) ?_
    refine xg X hw (C := RX7) (T := TX7) (N := 9) (by decide +kernel) 0 rfl rfl 0 (by decide) rfl (by decide +kernel) rfl dX7_image_16 ?_
    refine xcV (n := 1) (As := [.ref d]) (rest := []) (wc := [(i2, .inr (0, [.long (lN m2), .ref f2, .ref h2])), (f2, .inl (G.2.1, 61, .inl er2)), (h2, .inl (G.2.1, 61, .inl sk2)), (d, .inr (0, [.long (lN m), .ref e0, .ref k0])), (e0, .inl (G.2.1, 61, .inl er)), (k0, .inl (G.2.1, 61, .inl sk))]) (wr := [(xo, .inr (4, [.ref d, .ref i1, .ref i2, .ref g, .ref ru, .ref co, .int ik, .int un, .int tp]))]) X hw (c_X1_takeAllFrom l G i2 f2 h2 m2 er2 sk2 d e0 k0 m er sk ) (C := RX1) gX7_image_X1_takeAllFrom (q0 := 4) rfl rfl rfl ⟨rfl, rfl⟩ (by decide +kernel) ⟨by decide, by decide⟩ rfl hl.1 rfl (Nat.le_of_ble_eq_true rfl) dX7_image_19 ⟨by decide, by decide⟩ [4, 5, 6, 1, 2, 3] [0] rfl rfl rfl rfl (by decide) (fun r w1 H locs hp hw => ?_)
    obtain ⟨rfl, rfl⟩ := hp
    have hw := hw.sub (ws' := [(xo, .inr (4, [.ref d, .ref i1, .ref i2, .ref g, .ref ru, .ref co, .int ik, .int un, .int tp])), (d, .inr (0, [.long (lN m), .ref e0, .ref k0])), (e0, .inl (G.2.1, 61, .inl er)), (k0, .inl (G.2.1, 61, .inl sk)), (i2, .inr (0, [.long (lN m), .ref f2, .ref h2])), (f2, .inl (G.2.1, 61, .inl er)), (h2, .inl (G.2.1, 61, .inl sk))]) [0, 4, 5, 6, 1, 2, 3] rfl rfl
    refine W.eq (g2 := F0 mt 22 ls []) rfl ?_
    refine lv_aload_n hx hb dX7_image_22 rfl (lv_at hl 0 rfl) ?_
    refine lv_dup hx hb dX7_image_23 rfl ?_
    refine xg X hw (C := RX7) (T := TX7) (N := 9) (by decide +kernel) 0 rfl rfl 6 (by decide) rfl (by decide +kernel) rfl dX7_image_24 ?_
    refine lv_iconst (v := 1) hx hb dX7_image_27 (by decide) ?_
    refine lv_iload_n hx hb dX7_image_28 rfl (lv_at hl 1 rfl) ?_
    refine lv_ishl hx hb dX7_image_29 ?_
    refine x_cvi (y := 2) (by decide) ?_
    refine lv_ior hx hb dX7_image_30 ?_
    refine xp X hw (C := RX7) (ty := .int) (T := TX7) (N := 9) (by decide +kernel) tyX7 tyX7_ok nmX7 0 rfl rfl 6 (by decide) rfl (by decide +kernel) rfl (by decide +kernel) rfl rfl (Nat.le_of_ble_eq_true rfl) dX7_image_31 (ws' := [(xo, .inr (4, [.ref d, .ref i1, .ref i2, .ref g, .ref ru, .ref co, .int (ik ||| 2), .int un, .int tp])), (d, .inr (0, [.long (lN m), .ref e0, .ref k0])), (e0, .inl (G.2.1, 61, .inl er)), (k0, .inl (G.2.1, 61, .inl sk)), (i2, .inr (0, [.long (lN m), .ref f2, .ref h2])), (f2, .inl (G.2.1, 61, .inl er)), (h2, .inl (G.2.1, 61, .inl sk))]) rfl (fun H locs hw => ?_)
    refine lv_iconst (v := 1) hx hb dX7_image_34 (by decide) ?_
    refine hret _ _ _ _ _ _ dX7_image_35 hw ?_
    exact ⟨rfl, rfl⟩
  · exact absurd c4 (by decide)

set_option maxHeartbeats 4000000 in
set_option maxRecDepth 100000 in
theorem c_X7_restore1 (l : Launch) (G : GG) (xo : Nat) (i1 : Nat) (i2 : Nat) (ru : Nat) (co : Nat) (ik : Int32) (un : Int32) (tp : Int32) (d : Nat) (e0 : Nat) (k0 : Nat) (m : Nat) (er : Nat → Int32) (sk : Nat → Int32) (g : Nat) (s0 : Nat) (b0 : Nat) (st : Nat → Int32) (be : Nat → Int32) (nx : Nat) (cn : Nat) (f2 : Nat) (h2 : Nat) (m2 : Nat) (er2 : Nat → Int32) (sk2 : Nat → Int32)  : CT l G yX7_restore wsX7_restore ({ frames := 2, cells := 0, slots := 0, locals := 81 } : Room) [.ref xo, .int 1] [(xo, .inr (4, [.ref d, .ref i1, .ref i2, .ref g, .ref ru, .ref co, .int ik, .int un, .int tp])), (d, .inr (0, [.long (lN m), .ref e0, .ref k0])), (e0, .inl (G.2.1, 61, .inl er)), (k0, .inl (G.2.1, 61, .inl sk)), (g, .inr (2, [.ref s0, .ref b0, .int (nI nx), .int (nI cn)])), (s0, .inl (G.2.1, 16, .inl st)), (b0, .inl (G.2.1, 16, .inl be)), (i2, .inr (0, [.long (lN m2), .ref f2, .ref h2])), (f2, .inl (G.2.1, 61, .inl er2)), (h2, .inl (G.2.1, 61, .inl sk2))] (fun r w => (ik &&& 2 = 0 ∧ r = some (.int (-3)) ∧ w = [(xo, .inr (4, [.ref d, .ref i1, .ref i2, .ref g, .ref ru, .ref co, .int ik, .int un, .int tp])), (d, .inr (0, [.long (lN m), .ref e0, .ref k0])), (e0, .inl (G.2.1, 61, .inl er)), (k0, .inl (G.2.1, 61, .inl sk)), (g, .inr (2, [.ref s0, .ref b0, .int (nI nx), .int (nI cn)])), (s0, .inl (G.2.1, 16, .inl st)), (b0, .inl (G.2.1, 16, .inl be)), (i2, .inr (0, [.long (lN m2), .ref f2, .ref h2])), (f2, .inl (G.2.1, 61, .inl er2)), (h2, .inl (G.2.1, 61, .inl sk2))]) ∨ (¬ ik &&& 2 = 0 ∧ r = some (.int 1) ∧ w = [(xo, .inr (4, [.ref d, .ref i1, .ref i2, .ref g, .ref ru, .ref co, .int ik, .int un, .int tp])), (d, .inr (0, [.long (lN m2), .ref e0, .ref k0])), (e0, .inl (G.2.1, 61, .inl er2)), (k0, .inl (G.2.1, 61, .inl sk2)), (g, .inr (2, [.ref s0, .ref b0, .int (nI nx), .int (nI 0)])), (s0, .inl (G.2.1, 16, .inl st)), (b0, .inl (G.2.1, 16, .inl be)), (i2, .inr (0, [.long (lN m2), .ref f2, .ref h2])), (f2, .inl (G.2.1, 61, .inl er2)), (h2, .inl (G.2.1, 61, .inl sk2))])) 0 0 := by
  refine ct_i (cc := cX7_restore) (maxL := 2) (by decide +kernel) rfl (Nat.le_of_ble_eq_true rfl) ?_
  intro p e s mt below meth c A Q X hw hret ls hl
  obtain ⟨hx, hb, -⟩ := id X
  have hl : lv_has ls 2 [(0, .ref xo), (1, .int 1)] := hl
  refine lv_iload_n hx hb dX7_restore_0 rfl (lv_at hl 1 rfl) ?_
  refine xcP (n := 1) (As := [.int 1]) (rest := []) X hw (c_X7_isImage l G 1 ) gX7_restore_X7_isImage rfl ⟨rfl, rfl⟩ (by decide +kernel) ⟨by decide, by decide⟩ rfl hl.1 rfl (Nat.le_of_ble_eq_true rfl) dX7_restore_1 ⟨by decide, by decide⟩ (fun r w1 H locs hp hw => ?_)
  obtain rfl := hp
  refine W.eq (g2 := F0 mt 4 ls [.int (bi (inG 1))]) rfl ?_
  refine lv_if_ne (tgt := 10) hx hb dX7_restore_4 (by decide) (fun c4 => ?_) (fun c4 => ?_)
  · skip
    refine lv_aload_n hx hb dX7_restore_10 rfl (lv_at hl 0 rfl) ?_
    refine xg X hw (C := RX7) (T := TX7) (N := 9) (by decide +kernel) 0 rfl rfl 6 (by decide) rfl (by decide +kernel) rfl dX7_restore_11 ?_
    refine lv_iconst (v := 1) hx hb dX7_restore_14 (by decide) ?_
    refine lv_iload_n hx hb dX7_restore_15 rfl (lv_at hl 1 rfl) ?_
    refine lv_ishl hx hb dX7_restore_16 ?_
    refine x_cvi (y := 2) (by decide) ?_
    refine lv_iand hx hb dX7_restore_17 ?_
    refine lv_if_ne (tgt := 24) hx hb dX7_restore_18 (by decide) (fun c18 => ?_) (fun c18 => ?_)
    · refine lv_aload_n hx hb dX7_restore_24 rfl (lv_at hl 0 rfl) ?_
      refine xg X hw (C := RX7) (T := TX7) (N := 9) (by decide +kernel) 0 rfl rfl 0 (by decide) rfl (by decide +kernel) rfl dX7_restore_25 ?_
      refine lv_aload_n hx hb dX7_restore_28 rfl (lv_at hl 0 rfl) ?_
      refine lv_iload_n hx hb dX7_restore_29 rfl (lv_at hl 1 rfl) ?_
      refine xcV (n := 1) (As := [.int 1]) (rest := [.ref d]) (wc := [(xo, .inr (4, [.ref d, .ref i1, .ref i2, .ref g, .ref ru, .ref co, .int ik, .int un, .int tp]))]) (wr := [(d, .inr (0, [.long (lN m), .ref e0, .ref k0])), (e0, .inl (G.2.1, 61, .inl er)), (k0, .inl (G.2.1, 61, .inl sk)), (g, .inr (2, [.ref s0, .ref b0, .int (nI nx), .int (nI cn)])), (s0, .inl (G.2.1, 16, .inl st)), (b0, .inl (G.2.1, 16, .inl be)), (i2, .inr (0, [.long (lN m2), .ref f2, .ref h2])), (f2, .inl (G.2.1, 61, .inl er2)), (h2, .inl (G.2.1, 61, .inl sk2))]) X hw (c_X7_imageNamed1 l G xo i1 i2 ru co ik un tp g d ) (C := RX7) gX7_restore_X7_imageNamed (q0 := 0) rfl rfl rfl ⟨rfl, rfl⟩ (by decide +kernel) ⟨by decide, by decide⟩ rfl hl.1 rfl (Nat.le_of_ble_eq_true rfl) dX7_restore_30 ⟨by decide, by decide⟩ [0] [1, 2, 3, 4, 5, 6, 7, 8, 9] rfl rfl rfl rfl (by decide) (fun r w1 H locs hp hw => ?_)
      obtain ⟨rfl, rfl⟩ := hp
      have hw := hw.sub (ws' := [(xo, .inr (4, [.ref d, .ref i1, .ref i2, .ref g, .ref ru, .ref co, .int ik, .int un, .int tp])), (d, .inr (0, [.long (lN m), .ref e0, .ref k0])), (e0, .inl (G.2.1, 61, .inl er)), (k0, .inl (G.2.1, 61, .inl sk)), (g, .inr (2, [.ref s0, .ref b0, .int (nI nx), .int (nI cn)])), (s0, .inl (G.2.1, 16, .inl st)), (b0, .inl (G.2.1, 16, .inl be)), (i2, .inr (0, [.long (lN m2), .ref f2, .ref h2])), (f2, .inl (G.2.1, 61, .inl er2)), (h2, .inl (G.2.1, 61, .inl sk2))]) [9, 0, 1, 2, 3, 4, 5, 6, 7, 8] rfl rfl
      refine W.eq (g2 := F0 mt 33 ls [.ref i2, .ref d]) rfl ?_
      refine xcV (n := 1) (As := [.ref i2]) (rest := []) (wc := [(d, .inr (0, [.long (lN m), .ref e0, .ref k0])), (e0, .inl (G.2.1, 61, .inl er)), (k0, .inl (G.2.1, 61, .inl sk)), (i2, .inr (0, [.long (lN m2), .ref f2, .ref h2])), (f2, .inl (G.2.1, 61, .inl er2)), (h2, .inl (G.2.1, 61, .inl sk2))]) (wr := [(xo, .inr (4, [.ref d, .ref i1, .ref i2, .ref g, .ref ru, .ref co, .int ik, .int un, .int tp])), (g, .inr (2, [.ref s0, .ref b0, .int (nI nx), .int (nI cn)])), (s0, .inl (G.2.1, 16, .inl st)), (b0, .inl (G.2.1, 16, .inl be))]) X hw (c_X1_takeAllFrom l G d e0 k0 m er sk i2 f2 h2 m2 er2 sk2 ) (C := RX1) gX7_restore_X1_takeAllFrom (q0 := 1) rfl rfl rfl ⟨rfl, rfl⟩ (by decide +kernel) ⟨by decide, by decide⟩ rfl hl.1 rfl (Nat.le_of_ble_eq_true rfl) dX7_restore_33 ⟨by decide, by decide⟩ [1, 2, 3, 7, 8, 9] [0, 4, 5, 6] rfl rfl rfl rfl (by decide) (fun r w1 H locs hp hw => ?_)
      obtain ⟨rfl, rfl⟩ := hp
      have hw := hw.sub (ws' := [(xo, .inr (4, [.ref d, .ref i1, .ref i2, .ref g, .ref ru, .ref co, .int ik, .int un, .int tp])), (d, .inr (0, [.long (lN m2), .ref e0, .ref k0])), (e0, .inl (G.2.1, 61, .inl er2)), (k0, .inl (G.2.1, 61, .inl sk2)), (g, .inr (2, [.ref s0, .ref b0, .int (nI nx), .int (nI cn)])), (s0, .inl (G.2.1, 16, .inl st)), (b0, .inl (G.2.1, 16, .inl be)), (i2, .inr (0, [.long (lN m2), .ref f2, .ref h2])), (f2, .inl (G.2.1, 61, .inl er2)), (h2, .inl (G.2.1, 61, .inl sk2))]) [0, 4, 5, 6, 1, 2, 3, 7, 8, 9] rfl rfl
      refine W.eq (g2 := F0 mt 36 ls []) rfl ?_
      refine lv_aload_n hx hb dX7_restore_36 rfl (lv_at hl 0 rfl) ?_
      refine xg X hw (C := RX7) (T := TX7) (N := 9) (by decide +kernel) 0 rfl rfl 3 (by decide) rfl (by decide +kernel) rfl dX7_restore_37 ?_
      refine xcV (n := 0) (As := []) (rest := []) (wc := [(g, .inr (2, [.ref s0, .ref b0, .int (nI nx), .int (nI cn)])), (s0, .inl (G.2.1, 16, .inl st)), (b0, .inl (G.2.1, 16, .inl be))]) (wr := [(xo, .inr (4, [.ref d, .ref i1, .ref i2, .ref g, .ref ru, .ref co, .int ik, .int un, .int tp])), (d, .inr (0, [.long (lN m2), .ref e0, .ref k0])), (e0, .inl (G.2.1, 61, .inl er2)), (k0, .inl (G.2.1, 61, .inl sk2)), (i2, .inr (0, [.long (lN m2), .ref f2, .ref h2])), (f2, .inl (G.2.1, 61, .inl er2)), (h2, .inl (G.2.1, 61, .inl sk2))]) X hw (c_X4_forgetAll l G g s0 b0 st be nx cn ) (C := RX4) gX7_restore_X4_forgetAll (q0 := 4) rfl rfl rfl ⟨rfl, rfl⟩ (by decide +kernel) ⟨by decide, by decide⟩ rfl hl.1 rfl (Nat.le_of_ble_eq_true rfl) dX7_restore_40 ⟨by decide, by decide⟩ [4, 5, 6] [0, 1, 2, 3, 7, 8, 9] rfl rfl rfl rfl (by decide) (fun r w1 H locs hp hw => ?_)
      obtain ⟨rfl, rfl⟩ := hp
      have hw := hw.sub (ws' := [(xo, .inr (4, [.ref d, .ref i1, .ref i2, .ref g, .ref ru, .ref co, .int ik, .int un, .int tp])), (d, .inr (0, [.long (lN m2), .ref e0, .ref k0])), (e0, .inl (G.2.1, 61, .inl er2)), (k0, .inl (G.2.1, 61, .inl sk2)), (g, .inr (2, [.ref s0, .ref b0, .int (nI nx), .int (nI 0)])), (s0, .inl (G.2.1, 16, .inl st)), (b0, .inl (G.2.1, 16, .inl be)), (i2, .inr (0, [.long (lN m2), .ref f2, .ref h2])), (f2, .inl (G.2.1, 61, .inl er2)), (h2, .inl (G.2.1, 61, .inl sk2))]) [0, 1, 2, 3, 7, 8, 9, 4, 5, 6] rfl rfl
      refine W.eq (g2 := F0 mt 43 ls []) rfl ?_
      refine lv_iconst (v := 1) hx hb dX7_restore_43 (by decide) ?_
      refine hret _ _ _ _ _ _ dX7_restore_44 hw ?_
      exact Or.inr ⟨c18, rfl, rfl⟩
    · refine lv_bipush (v := (-3)) hx hb dX7_restore_21 (by decide) ?_
      refine hret _ _ _ _ _ _ dX7_restore_23 hw ?_
      exact Or.inl ⟨c18, rfl, rfl⟩
  · exact absurd c4 (by decide)

set_option maxHeartbeats 4000000 in
set_option maxRecDepth 100000 in
theorem c_X7_imageX (l : Launch) (G : GG) (xo : Nat) (i1 : Nat) (i2 : Nat) (ru : Nat) (co : Nat) (ik : Int32) (un : Int32) (tp : Int32) (g : Nat) (d : Nat) (x : Int32) (hx9 : inG x = false) : CT l G yX7_image wsX7_image ({ frames := 2, cells := 0, slots := 0, locals := 81 } : Room) [.ref xo, .int x] [(xo, .inr (4, [.ref d, .ref i1, .ref i2, .ref g, .ref ru, .ref co, .int ik, .int un, .int tp]))] (fun r w => r = some (.int (-2)) ∧ w = [(xo, .inr (4, [.ref d, .ref i1, .ref i2, .ref g, .ref ru, .ref co, .int ik, .int un, .int tp]))]) 0 0 := by
  refine ct_i (cc := cX7_image) (maxL := 2) (by decide +kernel) rfl (Nat.le_of_ble_eq_true rfl) ?_
  intro p e s mt below meth c A Q X hw hret ls hl
  obtain ⟨hx, hb, -⟩ := id X
  have hl : lv_has ls 2 [(0, .ref xo), (1, .int x)] := hl
  refine lv_iload_n hx hb dX7_image_0 rfl (lv_at hl 1 rfl) ?_
  refine xcP (n := 1) (As := [.int x]) (rest := []) X hw (c_X7_isImage l G x ) gX7_image_X7_isImage rfl ⟨rfl, rfl⟩ (by decide +kernel) ⟨by decide, by decide⟩ rfl hl.1 rfl (Nat.le_of_ble_eq_true rfl) dX7_image_1 ⟨by decide, by decide⟩ (fun r w1 H locs hp hw => ?_)
  obtain rfl := hp
  refine W.eq (g2 := F0 mt 4 ls [.int (bi (inG x))]) rfl ?_
  refine lv_if_ne (tgt := 10) hx hb dX7_image_4 (by decide) (fun c4 => ?_) (fun c4 => ?_)
  · exact absurd (bi_t c4) (by rw [hx9]; decide)
  · skip
    refine lv_bipush (v := (-2)) hx hb dX7_image_7 (by decide) ?_
    refine hret _ _ _ _ _ _ dX7_image_9 hw ?_
    exact ⟨rfl, rfl⟩

set_option maxHeartbeats 4000000 in
set_option maxRecDepth 100000 in
theorem c_X7_restoreX (l : Launch) (G : GG) (xo : Nat) (i1 : Nat) (i2 : Nat) (ru : Nat) (co : Nat) (ik : Int32) (un : Int32) (tp : Int32) (g : Nat) (d : Nat) (x : Int32) (hx9 : inG x = false) : CT l G yX7_restore wsX7_restore ({ frames := 2, cells := 0, slots := 0, locals := 81 } : Room) [.ref xo, .int x] [(xo, .inr (4, [.ref d, .ref i1, .ref i2, .ref g, .ref ru, .ref co, .int ik, .int un, .int tp]))] (fun r w => r = some (.int (-2)) ∧ w = [(xo, .inr (4, [.ref d, .ref i1, .ref i2, .ref g, .ref ru, .ref co, .int ik, .int un, .int tp]))]) 0 0 := by
  refine ct_i (cc := cX7_restore) (maxL := 2) (by decide +kernel) rfl (Nat.le_of_ble_eq_true rfl) ?_
  intro p e s mt below meth c A Q X hw hret ls hl
  obtain ⟨hx, hb, -⟩ := id X
  have hl : lv_has ls 2 [(0, .ref xo), (1, .int x)] := hl
  refine lv_iload_n hx hb dX7_restore_0 rfl (lv_at hl 1 rfl) ?_
  refine xcP (n := 1) (As := [.int x]) (rest := []) X hw (c_X7_isImage l G x ) gX7_restore_X7_isImage rfl ⟨rfl, rfl⟩ (by decide +kernel) ⟨by decide, by decide⟩ rfl hl.1 rfl (Nat.le_of_ble_eq_true rfl) dX7_restore_1 ⟨by decide, by decide⟩ (fun r w1 H locs hp hw => ?_)
  obtain rfl := hp
  refine W.eq (g2 := F0 mt 4 ls [.int (bi (inG x))]) rfl ?_
  refine lv_if_ne (tgt := 10) hx hb dX7_restore_4 (by decide) (fun c4 => ?_) (fun c4 => ?_)
  · exact absurd (bi_t c4) (by rw [hx9]; decide)
  · skip
    refine lv_bipush (v := (-2)) hx hb dX7_restore_7 (by decide) ?_
    refine hret _ _ _ _ _ _ dX7_restore_9 hw ?_
    exact ⟨rfl, rfl⟩

set_option maxHeartbeats 4000000 in
set_option maxRecDepth 100000 in
theorem c_X7_told (l : Launch) (G : GG) (xo : Nat) (i1 : Nat) (i2 : Nat) (ru : Nat) (co : Nat) (ik : Int32) (un : Int32) (tp : Int32) (d : Nat) (e0 : Nat) (k0 : Nat) (m : Nat) (er : Nat → Int32) (sk : Nat → Int32) (g : Nat) (s0 : Nat) (b0 : Nat) (st : Nat → Int32) (be : Nat → Int32) (nx : Nat) (cn : Nat) (r1 : Nat) (kd1 : Int32) (kr : Nat) (t1 : Int32) (r2 : Nat) (kd2 : Int32) (kc : Nat) (t2 : Int32) (x : Int32) (hkr : kr < 2 ^ 32) (hkc : kc < 2 ^ 32) : CT l G yX7_told wsX7_told ({ frames := 2, cells := 0, slots := 0, locals := 41 } : Room) [.ref xo, .int x] [(xo, .inr (4, [.ref d, .ref i1, .ref i2, .ref g, .ref ru, .ref co, .int ik, .int un, .int tp])), (d, .inr (0, [.long (lN m), .ref e0, .ref k0])), (e0, .inl (G.2.1, 61, .inl er)), (k0, .inl (G.2.1, 61, .inl sk)), (g, .inr (2, [.ref s0, .ref b0, .int (nI nx), .int (nI cn)])), (s0, .inl (G.2.1, 16, .inl st)), (b0, .inl (G.2.1, 16, .inl be)), (ru, .inr (3, [.int kd1, .ref r1, .int (nI kr), .int t1])), (co, .inr (3, [.int kd2, .ref r2, .int (nI kc), .int t2]))] (fun r w => r = some (.int (tdR er sk cn kr kc t1 t2 un tp x)) ∧ w = [(xo, .inr (4, [.ref d, .ref i1, .ref i2, .ref g, .ref ru, .ref co, .int ik, .int un, .int tp])), (d, .inr (0, [.long (lN m), .ref e0, .ref k0])), (e0, .inl (G.2.1, 61, .inl er)), (k0, .inl (G.2.1, 61, .inl sk)), (g, .inr (2, [.ref s0, .ref b0, .int (nI nx), .int (nI cn)])), (s0, .inl (G.2.1, 16, .inl st)), (b0, .inl (G.2.1, 16, .inl be)), (ru, .inr (3, [.int kd1, .ref r1, .int (nI kr), .int t1])), (co, .inr (3, [.int kd2, .ref r2, .int (nI kc), .int t2]))]) 0 0 := by
  refine ct_i (cc := cX7_told) (maxL := 2) (by decide +kernel) rfl (Nat.le_of_ble_eq_true rfl) ?_
  intro p e s mt below meth c A Q X hw hret ls hl
  obtain ⟨hx, hb, -⟩ := id X
  have hl : lv_has ls 2 [(0, .ref xo), (1, .int x)] := hl
  refine lv_iload_n hx hb dX7_told_0 rfl (lv_at hl 1 rfl) ?_
  refine lv_bipush (v := 100) hx hb dX7_told_1 (by decide) ?_
  refine lv_isub hx hb dX7_told_3 ?_
  refine xcP (n := 1) (As := [.int (x - 100)]) (rest := []) X hw (c_X7_isStation l G (x - 100) ) gX7_told_X7_isStation rfl ⟨rfl, rfl⟩ (by decide +kernel) ⟨by decide, by decide⟩ rfl hl.1 rfl (Nat.le_of_ble_eq_true rfl) dX7_told_4 ⟨by decide, by decide⟩ (fun r w1 H locs hp hw => ?_)
  obtain rfl := hp
  refine W.eq (g2 := F0 mt 7 ls [.int (bi (inS (x - 100)))]) rfl ?_
  refine lv_if_eq (tgt := 22) hx hb dX7_told_7 (by decide) (fun c7 => ?_) (fun c7 => ?_)
  · have hi := bi_f c7
    refine lv_iload_n hx hb dX7_told_22 rfl (lv_at hl 1 rfl) ?_
    refine lv_sipush (v := 200) hx hb dX7_told_23 (by decide) ?_
    refine lv_isub hx hb dX7_told_26 ?_
    refine xcP (n := 1) (As := [.int (x - 200)]) (rest := []) X hw (c_X7_isLength l G (x - 200) ) gX7_told_X7_isLength rfl ⟨rfl, rfl⟩ (by decide +kernel) ⟨by decide, by decide⟩ rfl hl.1 rfl (Nat.le_of_ble_eq_true rfl) dX7_told_27 ⟨by decide, by decide⟩ (fun r w1 H locs hp hw => ?_)
    obtain rfl := hp
    refine W.eq (g2 := F0 mt 30 ls [.int (bi (inL (x - 200)))]) rfl ?_
    refine lv_if_eq (tgt := 46) hx hb dX7_told_30 (by decide) (fun c30 => ?_) (fun c30 => ?_)
    · have hi2 := bi_f c30
      refine lv_iload_n hx hb dX7_told_46 rfl (lv_at hl 1 rfl) ?_
      by_cases ht47_0 : x = 0
      · refine lv_tableIn (tgt := 88) hx hb dX7_told_47 (by rw [ht47_0]; decide) (by rw [ht47_0]; decide) (off := 41) (by rw [ht47_0]; rfl) (by decide) ?_
        refine lv_aload_n hx hb dX7_told_88 rfl (lv_at hl 0 rfl) ?_
        refine xg X hw (C := RX7) (T := TX7) (N := 9) (by decide +kernel) 0 rfl rfl 3 (by decide) rfl (by decide +kernel) rfl dX7_told_89 ?_
        refine xcV (n := 0) (As := []) (rest := []) (wc := [(g, .inr (2, [.ref s0, .ref b0, .int (nI nx), .int (nI cn)])), (s0, .inl (G.2.1, 16, .inl st)), (b0, .inl (G.2.1, 16, .inl be))]) (wr := [(xo, .inr (4, [.ref d, .ref i1, .ref i2, .ref g, .ref ru, .ref co, .int ik, .int un, .int tp])), (d, .inr (0, [.long (lN m), .ref e0, .ref k0])), (e0, .inl (G.2.1, 61, .inl er)), (k0, .inl (G.2.1, 61, .inl sk)), (ru, .inr (3, [.int kd1, .ref r1, .int (nI kr), .int t1])), (co, .inr (3, [.int kd2, .ref r2, .int (nI kc), .int t2]))]) X hw (c_X4_count l G g s0 b0 st be nx cn ) (C := RX4) gX7_told_X4_count (q0 := 4) rfl rfl rfl ⟨rfl, rfl⟩ (by decide +kernel) ⟨by decide, by decide⟩ rfl hl.1 rfl (Nat.le_of_ble_eq_true rfl) dX7_told_92 ⟨by decide, by decide⟩ [4, 5, 6] [0, 1, 2, 3, 7, 8] rfl rfl rfl rfl (by decide) (fun r w1 H locs hp hw => ?_)
        obtain ⟨rfl, rfl⟩ := hp
        have hw := hw.sub (ws' := [(xo, .inr (4, [.ref d, .ref i1, .ref i2, .ref g, .ref ru, .ref co, .int ik, .int un, .int tp])), (d, .inr (0, [.long (lN m), .ref e0, .ref k0])), (e0, .inl (G.2.1, 61, .inl er)), (k0, .inl (G.2.1, 61, .inl sk)), (g, .inr (2, [.ref s0, .ref b0, .int (nI nx), .int (nI cn)])), (s0, .inl (G.2.1, 16, .inl st)), (b0, .inl (G.2.1, 16, .inl be)), (ru, .inr (3, [.int kd1, .ref r1, .int (nI kr), .int t1])), (co, .inr (3, [.int kd2, .ref r2, .int (nI kc), .int t2]))]) [0, 1, 2, 3, 6, 7, 8, 4, 5] rfl rfl
        refine W.eq (g2 := F0 mt 95 ls [.int (nI cn)]) rfl ?_
        refine hret _ _ _ _ _ _ dX7_told_95 hw ?_
        exact ⟨congrArg (fun z => some (Value.int z)) (by unfold tdR; rw [if_neg (by rw [hi]; decide), if_neg (by rw [hi2]; decide), if_pos ht47_0]), rfl⟩
      by_cases ht47_1 : x = 1
      · refine lv_tableIn (tgt := 96) hx hb dX7_told_47 (by rw [ht47_1]; decide) (by rw [ht47_1]; decide) (off := 49) (by rw [ht47_1]; rfl) (by decide) ?_
        refine lv_aload_n hx hb dX7_told_96 rfl (lv_at hl 0 rfl) ?_
        refine xg X hw (C := RX7) (T := TX7) (N := 9) (by decide +kernel) 0 rfl rfl 4 (by decide) rfl (by decide +kernel) rfl dX7_told_97 ?_
        refine xcV (n := 0) (As := []) (rest := []) (wc := [(ru, .inr (3, [.int kd1, .ref r1, .int (nI kr), .int t1]))]) (wr := [(xo, .inr (4, [.ref d, .ref i1, .ref i2, .ref g, .ref ru, .ref co, .int ik, .int un, .int tp])), (d, .inr (0, [.long (lN m), .ref e0, .ref k0])), (e0, .inl (G.2.1, 61, .inl er)), (k0, .inl (G.2.1, 61, .inl sk)), (g, .inr (2, [.ref s0, .ref b0, .int (nI nx), .int (nI cn)])), (s0, .inl (G.2.1, 16, .inl st)), (b0, .inl (G.2.1, 16, .inl be)), (co, .inr (3, [.int kd2, .ref r2, .int (nI kc), .int t2]))]) X hw (c_X6_count l G ru r1 kd1 kr t1 hkr) (C := RX6) gX7_told_X6_count (q0 := 7) rfl rfl rfl ⟨rfl, rfl⟩ (by decide +kernel) ⟨by decide, by decide⟩ rfl hl.1 rfl (Nat.le_of_ble_eq_true rfl) dX7_told_100 ⟨by decide, by decide⟩ [7] [0, 1, 2, 3, 4, 5, 6, 8] rfl rfl rfl rfl (by decide) (fun r w1 H locs hp hw => ?_)
        obtain ⟨rfl, rfl⟩ := hp
        have hw := hw.sub (ws' := [(xo, .inr (4, [.ref d, .ref i1, .ref i2, .ref g, .ref ru, .ref co, .int ik, .int un, .int tp])), (d, .inr (0, [.long (lN m), .ref e0, .ref k0])), (e0, .inl (G.2.1, 61, .inl er)), (k0, .inl (G.2.1, 61, .inl sk)), (g, .inr (2, [.ref s0, .ref b0, .int (nI nx), .int (nI cn)])), (s0, .inl (G.2.1, 16, .inl st)), (b0, .inl (G.2.1, 16, .inl be)), (ru, .inr (3, [.int kd1, .ref r1, .int (nI kr), .int t1])), (co, .inr (3, [.int kd2, .ref r2, .int (nI kc), .int t2]))]) [0, 1, 2, 3, 4, 5, 6, 8, 7] rfl rfl
        refine W.eq (g2 := F0 mt 103 ls [.int (nI (pcN 32 kr))]) rfl ?_
        refine lv_aload_n hx hb dX7_told_103 rfl (lv_at hl 0 rfl) ?_
        refine xg X hw (C := RX7) (T := TX7) (N := 9) (by decide +kernel) 0 rfl rfl 5 (by decide) rfl (by decide +kernel) rfl dX7_told_104 ?_
        refine xcV (n := 0) (As := []) (rest := [.int (nI (pcN 32 kr))]) (wc := [(co, .inr (3, [.int kd2, .ref r2, .int (nI kc), .int t2]))]) (wr := [(xo, .inr (4, [.ref d, .ref i1, .ref i2, .ref g, .ref ru, .ref co, .int ik, .int un, .int tp])), (d, .inr (0, [.long (lN m), .ref e0, .ref k0])), (e0, .inl (G.2.1, 61, .inl er)), (k0, .inl (G.2.1, 61, .inl sk)), (g, .inr (2, [.ref s0, .ref b0, .int (nI nx), .int (nI cn)])), (s0, .inl (G.2.1, 16, .inl st)), (b0, .inl (G.2.1, 16, .inl be)), (ru, .inr (3, [.int kd1, .ref r1, .int (nI kr), .int t1]))]) X hw (c_X6_count l G co r2 kd2 kc t2 hkc) (C := RX6) gX7_told_X6_count (q0 := 8) rfl rfl rfl ⟨rfl, rfl⟩ (by decide +kernel) ⟨by decide, by decide⟩ rfl hl.1 rfl (Nat.le_of_ble_eq_true rfl) dX7_told_107 ⟨by decide, by decide⟩ [8] [0, 1, 2, 3, 4, 5, 6, 7] rfl rfl rfl rfl (by decide) (fun r w1 H locs hp hw => ?_)
        obtain ⟨rfl, rfl⟩ := hp
        have hw := hw.sub (ws' := [(xo, .inr (4, [.ref d, .ref i1, .ref i2, .ref g, .ref ru, .ref co, .int ik, .int un, .int tp])), (d, .inr (0, [.long (lN m), .ref e0, .ref k0])), (e0, .inl (G.2.1, 61, .inl er)), (k0, .inl (G.2.1, 61, .inl sk)), (g, .inr (2, [.ref s0, .ref b0, .int (nI nx), .int (nI cn)])), (s0, .inl (G.2.1, 16, .inl st)), (b0, .inl (G.2.1, 16, .inl be)), (ru, .inr (3, [.int kd1, .ref r1, .int (nI kr), .int t1])), (co, .inr (3, [.int kd2, .ref r2, .int (nI kc), .int t2]))]) [0, 1, 2, 3, 4, 5, 6, 7, 8] rfl rfl
        refine W.eq (g2 := F0 mt 110 ls [.int (nI (pcN 32 kc)), .int (nI (pcN 32 kr))]) rfl ?_
        refine lv_iadd hx hb dX7_told_110 ?_
        refine hret _ _ _ _ _ _ dX7_told_111 hw ?_
        exact ⟨congrArg (fun z => some (Value.int z)) (by unfold tdR; rw [if_neg (by rw [hi]; decide), if_neg (by rw [hi2]; decide), if_neg ht47_0, if_pos ht47_1]), rfl⟩
      by_cases ht47_2 : x = 2
      · refine lv_tableIn (tgt := 112) hx hb dX7_told_47 (by rw [ht47_2]; decide) (by rw [ht47_2]; decide) (off := 65) (by rw [ht47_2]; rfl) (by decide) ?_
        refine lv_aload_n hx hb dX7_told_112 rfl (lv_at hl 0 rfl) ?_
        refine xg X hw (C := RX7) (T := TX7) (N := 9) (by decide +kernel) 0 rfl rfl 4 (by decide) rfl (by decide +kernel) rfl dX7_told_113 ?_
        refine xcV (n := 0) (As := []) (rest := []) (wc := [(ru, .inr (3, [.int kd1, .ref r1, .int (nI kr), .int t1]))]) (wr := [(xo, .inr (4, [.ref d, .ref i1, .ref i2, .ref g, .ref ru, .ref co, .int ik, .int un, .int tp])), (d, .inr (0, [.long (lN m), .ref e0, .ref k0])), (e0, .inl (G.2.1, 61, .inl er)), (k0, .inl (G.2.1, 61, .inl sk)), (g, .inr (2, [.ref s0, .ref b0, .int (nI nx), .int (nI cn)])), (s0, .inl (G.2.1, 16, .inl st)), (b0, .inl (G.2.1, 16, .inl be)), (co, .inr (3, [.int kd2, .ref r2, .int (nI kc), .int t2]))]) X hw (c_X6_triesInAll l G ru r1 kd1 kr t1 ) (C := RX6) gX7_told_X6_triesInAll (q0 := 7) rfl rfl rfl ⟨rfl, rfl⟩ (by decide +kernel) ⟨by decide, by decide⟩ rfl hl.1 rfl (Nat.le_of_ble_eq_true rfl) dX7_told_116 ⟨by decide, by decide⟩ [7] [0, 1, 2, 3, 4, 5, 6, 8] rfl rfl rfl rfl (by decide) (fun r w1 H locs hp hw => ?_)
        obtain ⟨rfl, rfl⟩ := hp
        have hw := hw.sub (ws' := [(xo, .inr (4, [.ref d, .ref i1, .ref i2, .ref g, .ref ru, .ref co, .int ik, .int un, .int tp])), (d, .inr (0, [.long (lN m), .ref e0, .ref k0])), (e0, .inl (G.2.1, 61, .inl er)), (k0, .inl (G.2.1, 61, .inl sk)), (g, .inr (2, [.ref s0, .ref b0, .int (nI nx), .int (nI cn)])), (s0, .inl (G.2.1, 16, .inl st)), (b0, .inl (G.2.1, 16, .inl be)), (ru, .inr (3, [.int kd1, .ref r1, .int (nI kr), .int t1])), (co, .inr (3, [.int kd2, .ref r2, .int (nI kc), .int t2]))]) [0, 1, 2, 3, 4, 5, 6, 8, 7] rfl rfl
        refine W.eq (g2 := F0 mt 119 ls [.int t1]) rfl ?_
        refine lv_aload_n hx hb dX7_told_119 rfl (lv_at hl 0 rfl) ?_
        refine xg X hw (C := RX7) (T := TX7) (N := 9) (by decide +kernel) 0 rfl rfl 5 (by decide) rfl (by decide +kernel) rfl dX7_told_120 ?_
        refine xcV (n := 0) (As := []) (rest := [.int t1]) (wc := [(co, .inr (3, [.int kd2, .ref r2, .int (nI kc), .int t2]))]) (wr := [(xo, .inr (4, [.ref d, .ref i1, .ref i2, .ref g, .ref ru, .ref co, .int ik, .int un, .int tp])), (d, .inr (0, [.long (lN m), .ref e0, .ref k0])), (e0, .inl (G.2.1, 61, .inl er)), (k0, .inl (G.2.1, 61, .inl sk)), (g, .inr (2, [.ref s0, .ref b0, .int (nI nx), .int (nI cn)])), (s0, .inl (G.2.1, 16, .inl st)), (b0, .inl (G.2.1, 16, .inl be)), (ru, .inr (3, [.int kd1, .ref r1, .int (nI kr), .int t1]))]) X hw (c_X6_triesInAll l G co r2 kd2 kc t2 ) (C := RX6) gX7_told_X6_triesInAll (q0 := 8) rfl rfl rfl ⟨rfl, rfl⟩ (by decide +kernel) ⟨by decide, by decide⟩ rfl hl.1 rfl (Nat.le_of_ble_eq_true rfl) dX7_told_123 ⟨by decide, by decide⟩ [8] [0, 1, 2, 3, 4, 5, 6, 7] rfl rfl rfl rfl (by decide) (fun r w1 H locs hp hw => ?_)
        obtain ⟨rfl, rfl⟩ := hp
        have hw := hw.sub (ws' := [(xo, .inr (4, [.ref d, .ref i1, .ref i2, .ref g, .ref ru, .ref co, .int ik, .int un, .int tp])), (d, .inr (0, [.long (lN m), .ref e0, .ref k0])), (e0, .inl (G.2.1, 61, .inl er)), (k0, .inl (G.2.1, 61, .inl sk)), (g, .inr (2, [.ref s0, .ref b0, .int (nI nx), .int (nI cn)])), (s0, .inl (G.2.1, 16, .inl st)), (b0, .inl (G.2.1, 16, .inl be)), (ru, .inr (3, [.int kd1, .ref r1, .int (nI kr), .int t1])), (co, .inr (3, [.int kd2, .ref r2, .int (nI kc), .int t2]))]) [0, 1, 2, 3, 4, 5, 6, 7, 8] rfl rfl
        refine W.eq (g2 := F0 mt 126 ls [.int t2, .int t1]) rfl ?_
        refine lv_iadd hx hb dX7_told_126 ?_
        refine hret _ _ _ _ _ _ dX7_told_127 hw ?_
        exact ⟨congrArg (fun z => some (Value.int z)) (by unfold tdR; rw [if_neg (by rw [hi]; decide), if_neg (by rw [hi2]; decide), if_neg ht47_0, if_neg ht47_1, if_pos ht47_2]), rfl⟩
      by_cases ht47_3 : x = 3
      · refine lv_tableIn (tgt := 128) hx hb dX7_told_47 (by rw [ht47_3]; decide) (by rw [ht47_3]; decide) (off := 81) (by rw [ht47_3]; rfl) (by decide) ?_
        refine lv_aload_n hx hb dX7_told_128 rfl (lv_at hl 0 rfl) ?_
        refine xg X hw (C := RX7) (T := TX7) (N := 9) (by decide +kernel) 0 rfl rfl 7 (by decide) rfl (by decide +kernel) rfl dX7_told_129 ?_
        refine hret _ _ _ _ _ _ dX7_told_132 hw ?_
        exact ⟨congrArg (fun z => some (Value.int z)) (by unfold tdR; rw [if_neg (by rw [hi]; decide), if_neg (by rw [hi2]; decide), if_neg ht47_0, if_neg ht47_1, if_neg ht47_2, if_pos ht47_3]), rfl⟩
      by_cases ht47_4 : x = 4
      · refine lv_tableIn (tgt := 133) hx hb dX7_told_47 (by rw [ht47_4]; decide) (by rw [ht47_4]; decide) (off := 86) (by rw [ht47_4]; rfl) (by decide) ?_
        refine lv_aload_n hx hb dX7_told_133 rfl (lv_at hl 0 rfl) ?_
        refine xg X hw (C := RX7) (T := TX7) (N := 9) (by decide +kernel) 0 rfl rfl 4 (by decide) rfl (by decide +kernel) rfl dX7_told_134 ?_
        refine xcV (n := 0) (As := []) (rest := []) (wc := [(ru, .inr (3, [.int kd1, .ref r1, .int (nI kr), .int t1]))]) (wr := [(xo, .inr (4, [.ref d, .ref i1, .ref i2, .ref g, .ref ru, .ref co, .int ik, .int un, .int tp])), (d, .inr (0, [.long (lN m), .ref e0, .ref k0])), (e0, .inl (G.2.1, 61, .inl er)), (k0, .inl (G.2.1, 61, .inl sk)), (g, .inr (2, [.ref s0, .ref b0, .int (nI nx), .int (nI cn)])), (s0, .inl (G.2.1, 16, .inl st)), (b0, .inl (G.2.1, 16, .inl be)), (co, .inr (3, [.int kd2, .ref r2, .int (nI kc), .int t2]))]) X hw (c_X6_knownBits l G ru r1 kd1 kr t1 ) (C := RX6) gX7_told_X6_knownBits (q0 := 7) rfl rfl rfl ⟨rfl, rfl⟩ (by decide +kernel) ⟨by decide, by decide⟩ rfl hl.1 rfl (Nat.le_of_ble_eq_true rfl) dX7_told_137 ⟨by decide, by decide⟩ [7] [0, 1, 2, 3, 4, 5, 6, 8] rfl rfl rfl rfl (by decide) (fun r w1 H locs hp hw => ?_)
        obtain ⟨rfl, rfl⟩ := hp
        have hw := hw.sub (ws' := [(xo, .inr (4, [.ref d, .ref i1, .ref i2, .ref g, .ref ru, .ref co, .int ik, .int un, .int tp])), (d, .inr (0, [.long (lN m), .ref e0, .ref k0])), (e0, .inl (G.2.1, 61, .inl er)), (k0, .inl (G.2.1, 61, .inl sk)), (g, .inr (2, [.ref s0, .ref b0, .int (nI nx), .int (nI cn)])), (s0, .inl (G.2.1, 16, .inl st)), (b0, .inl (G.2.1, 16, .inl be)), (ru, .inr (3, [.int kd1, .ref r1, .int (nI kr), .int t1])), (co, .inr (3, [.int kd2, .ref r2, .int (nI kc), .int t2]))]) [0, 1, 2, 3, 4, 5, 6, 8, 7] rfl rfl
        refine W.eq (g2 := F0 mt 140 ls [.int (nI kr)]) rfl ?_
        refine hret _ _ _ _ _ _ dX7_told_140 hw ?_
        exact ⟨congrArg (fun z => some (Value.int z)) (by unfold tdR; rw [if_neg (by rw [hi]; decide), if_neg (by rw [hi2]; decide), if_neg ht47_0, if_neg ht47_1, if_neg ht47_2, if_neg ht47_3, if_pos ht47_4]), rfl⟩
      by_cases ht47_5 : x = 5
      · refine lv_tableIn (tgt := 141) hx hb dX7_told_47 (by rw [ht47_5]; decide) (by rw [ht47_5]; decide) (off := 94) (by rw [ht47_5]; rfl) (by decide) ?_
        refine lv_aload_n hx hb dX7_told_141 rfl (lv_at hl 0 rfl) ?_
        refine xg X hw (C := RX7) (T := TX7) (N := 9) (by decide +kernel) 0 rfl rfl 5 (by decide) rfl (by decide +kernel) rfl dX7_told_142 ?_
        refine xcV (n := 0) (As := []) (rest := []) (wc := [(co, .inr (3, [.int kd2, .ref r2, .int (nI kc), .int t2]))]) (wr := [(xo, .inr (4, [.ref d, .ref i1, .ref i2, .ref g, .ref ru, .ref co, .int ik, .int un, .int tp])), (d, .inr (0, [.long (lN m), .ref e0, .ref k0])), (e0, .inl (G.2.1, 61, .inl er)), (k0, .inl (G.2.1, 61, .inl sk)), (g, .inr (2, [.ref s0, .ref b0, .int (nI nx), .int (nI cn)])), (s0, .inl (G.2.1, 16, .inl st)), (b0, .inl (G.2.1, 16, .inl be)), (ru, .inr (3, [.int kd1, .ref r1, .int (nI kr), .int t1]))]) X hw (c_X6_knownBits l G co r2 kd2 kc t2 ) (C := RX6) gX7_told_X6_knownBits (q0 := 8) rfl rfl rfl ⟨rfl, rfl⟩ (by decide +kernel) ⟨by decide, by decide⟩ rfl hl.1 rfl (Nat.le_of_ble_eq_true rfl) dX7_told_145 ⟨by decide, by decide⟩ [8] [0, 1, 2, 3, 4, 5, 6, 7] rfl rfl rfl rfl (by decide) (fun r w1 H locs hp hw => ?_)
        obtain ⟨rfl, rfl⟩ := hp
        have hw := hw.sub (ws' := [(xo, .inr (4, [.ref d, .ref i1, .ref i2, .ref g, .ref ru, .ref co, .int ik, .int un, .int tp])), (d, .inr (0, [.long (lN m), .ref e0, .ref k0])), (e0, .inl (G.2.1, 61, .inl er)), (k0, .inl (G.2.1, 61, .inl sk)), (g, .inr (2, [.ref s0, .ref b0, .int (nI nx), .int (nI cn)])), (s0, .inl (G.2.1, 16, .inl st)), (b0, .inl (G.2.1, 16, .inl be)), (ru, .inr (3, [.int kd1, .ref r1, .int (nI kr), .int t1])), (co, .inr (3, [.int kd2, .ref r2, .int (nI kc), .int t2]))]) [0, 1, 2, 3, 4, 5, 6, 7, 8] rfl rfl
        refine W.eq (g2 := F0 mt 148 ls [.int (nI kc)]) rfl ?_
        refine hret _ _ _ _ _ _ dX7_told_148 hw ?_
        exact ⟨congrArg (fun z => some (Value.int z)) (by unfold tdR; rw [if_neg (by rw [hi]; decide), if_neg (by rw [hi2]; decide), if_neg ht47_0, if_neg ht47_1, if_neg ht47_2, if_neg ht47_3, if_neg ht47_4, if_pos ht47_5]), rfl⟩
      by_cases ht47_6 : x = 6
      · refine lv_tableIn (tgt := 149) hx hb dX7_told_47 (by rw [ht47_6]; decide) (by rw [ht47_6]; decide) (off := 102) (by rw [ht47_6]; rfl) (by decide) ?_
        refine lv_aload_n hx hb dX7_told_149 rfl (lv_at hl 0 rfl) ?_
        refine xg X hw (C := RX7) (T := TX7) (N := 9) (by decide +kernel) 0 rfl rfl 8 (by decide) rfl (by decide +kernel) rfl dX7_told_150 ?_
        refine hret _ _ _ _ _ _ dX7_told_153 hw ?_
        exact ⟨congrArg (fun z => some (Value.int z)) (by unfold tdR; rw [if_neg (by rw [hi]; decide), if_neg (by rw [hi2]; decide), if_neg ht47_0, if_neg ht47_1, if_neg ht47_2, if_neg ht47_3, if_neg ht47_4, if_neg ht47_5, if_pos ht47_6]), rfl⟩
      refine lv_tableOut (tgt := 154) hx hb dX7_told_47 (tab_out7 x ht47_0 ht47_1 ht47_2 ht47_3 ht47_4 ht47_5 ht47_6) (by decide) ?_
      refine lv_bipush (v := (-2)) hx hb dX7_told_154 (by decide) ?_
      refine hret _ _ _ _ _ _ dX7_told_156 hw ?_
      exact ⟨congrArg (fun z => some (Value.int z)) (by unfold tdR; rw [if_neg (by rw [hi]; decide), if_neg (by rw [hi2]; decide), if_neg ht47_0, if_neg ht47_1, if_neg ht47_2, if_neg ht47_3, if_neg ht47_4, if_neg ht47_5, if_neg ht47_6]), rfl⟩
    · have hi2 := bi_t c30
      refine lv_aload_n hx hb dX7_told_33 rfl (lv_at hl 0 rfl) ?_
      refine xg X hw (C := RX7) (T := TX7) (N := 9) (by decide +kernel) 0 rfl rfl 0 (by decide) rfl (by decide +kernel) rfl dX7_told_34 ?_
      refine lv_iload_n hx hb dX7_told_37 rfl (lv_at hl 1 rfl) ?_
      refine lv_sipush (v := 200) hx hb dX7_told_38 (by decide) ?_
      refine lv_isub hx hb dX7_told_41 ?_
      refine xcV (n := 1) (As := [.int (x - 200)]) (rest := []) (wc := [(d, .inr (0, [.long (lN m), .ref e0, .ref k0])), (e0, .inl (G.2.1, 61, .inl er)), (k0, .inl (G.2.1, 61, .inl sk))]) (wr := [(xo, .inr (4, [.ref d, .ref i1, .ref i2, .ref g, .ref ru, .ref co, .int ik, .int un, .int tp])), (g, .inr (2, [.ref s0, .ref b0, .int (nI nx), .int (nI cn)])), (s0, .inl (G.2.1, 16, .inl st)), (b0, .inl (G.2.1, 16, .inl be)), (ru, .inr (3, [.int kd1, .ref r1, .int (nI kr), .int t1])), (co, .inr (3, [.int kd2, .ref r2, .int (nI kc), .int t2]))]) X hw (c_X1_skyOf l G d e0 k0 m er sk (x - 200) ) (C := RX1) gX7_told_X1_skyOf (q0 := 1) rfl rfl rfl ⟨rfl, rfl⟩ (by decide +kernel) ⟨by decide, by decide⟩ rfl hl.1 rfl (Nat.le_of_ble_eq_true rfl) dX7_told_42 ⟨by decide, by decide⟩ [1, 2, 3] [0, 4, 5, 6, 7, 8] rfl rfl rfl rfl (by decide) (fun r w1 H locs hp hw => ?_)
      obtain ⟨rfl, rfl⟩ := hp
      have hw := hw.sub (ws' := [(xo, .inr (4, [.ref d, .ref i1, .ref i2, .ref g, .ref ru, .ref co, .int ik, .int un, .int tp])), (d, .inr (0, [.long (lN m), .ref e0, .ref k0])), (e0, .inl (G.2.1, 61, .inl er)), (k0, .inl (G.2.1, 61, .inl sk)), (g, .inr (2, [.ref s0, .ref b0, .int (nI nx), .int (nI cn)])), (s0, .inl (G.2.1, 16, .inl st)), (b0, .inl (G.2.1, 16, .inl be)), (ru, .inr (3, [.int kd1, .ref r1, .int (nI kr), .int t1])), (co, .inr (3, [.int kd2, .ref r2, .int (nI kc), .int t2]))]) [0, 6, 7, 8, 1, 2, 3, 4, 5] rfl rfl
      refine W.eq (g2 := F0 mt 45 ls [.int (skX sk (x - 200))]) rfl ?_
      refine hret _ _ _ _ _ _ dX7_told_45 hw ?_
      exact ⟨congrArg (fun z => some (Value.int z)) (by unfold tdR; rw [if_neg (by rw [hi]; decide), if_pos hi2]), rfl⟩
  · have hi := bi_t c7
    refine lv_aload_n hx hb dX7_told_10 rfl (lv_at hl 0 rfl) ?_
    refine xg X hw (C := RX7) (T := TX7) (N := 9) (by decide +kernel) 0 rfl rfl 0 (by decide) rfl (by decide +kernel) rfl dX7_told_11 ?_
    refine lv_iload_n hx hb dX7_told_14 rfl (lv_at hl 1 rfl) ?_
    refine lv_bipush (v := 100) hx hb dX7_told_15 (by decide) ?_
    refine lv_isub hx hb dX7_told_17 ?_
    refine xcV (n := 1) (As := [.int (x - 100)]) (rest := []) (wc := [(d, .inr (0, [.long (lN m), .ref e0, .ref k0])), (e0, .inl (G.2.1, 61, .inl er)), (k0, .inl (G.2.1, 61, .inl sk))]) (wr := [(xo, .inr (4, [.ref d, .ref i1, .ref i2, .ref g, .ref ru, .ref co, .int ik, .int un, .int tp])), (g, .inr (2, [.ref s0, .ref b0, .int (nI nx), .int (nI cn)])), (s0, .inl (G.2.1, 16, .inl st)), (b0, .inl (G.2.1, 16, .inl be)), (ru, .inr (3, [.int kd1, .ref r1, .int (nI kr), .int t1])), (co, .inr (3, [.int kd2, .ref r2, .int (nI kc), .int t2]))]) X hw (c_X1_errorAt l G d e0 k0 m er sk (x - 100) ) (C := RX1) gX7_told_X1_errorAt (q0 := 1) rfl rfl rfl ⟨rfl, rfl⟩ (by decide +kernel) ⟨by decide, by decide⟩ rfl hl.1 rfl (Nat.le_of_ble_eq_true rfl) dX7_told_18 ⟨by decide, by decide⟩ [1, 2, 3] [0, 4, 5, 6, 7, 8] rfl rfl rfl rfl (by decide) (fun r w1 H locs hp hw => ?_)
    obtain ⟨rfl, rfl⟩ := hp
    have hw := hw.sub (ws' := [(xo, .inr (4, [.ref d, .ref i1, .ref i2, .ref g, .ref ru, .ref co, .int ik, .int un, .int tp])), (d, .inr (0, [.long (lN m), .ref e0, .ref k0])), (e0, .inl (G.2.1, 61, .inl er)), (k0, .inl (G.2.1, 61, .inl sk)), (g, .inr (2, [.ref s0, .ref b0, .int (nI nx), .int (nI cn)])), (s0, .inl (G.2.1, 16, .inl st)), (b0, .inl (G.2.1, 16, .inl be)), (ru, .inr (3, [.int kd1, .ref r1, .int (nI kr), .int t1])), (co, .inr (3, [.int kd2, .ref r2, .int (nI kc), .int t2]))]) [0, 6, 7, 8, 1, 2, 3, 4, 5] rfl rfl
    refine W.eq (g2 := F0 mt 21 ls [.int (erX er (x - 100))]) rfl ?_
    refine hret _ _ _ _ _ _ dX7_told_21 hw ?_
    exact ⟨congrArg (fun z => some (Value.int z)) (by unfold tdR; rw [if_pos hi]), rfl⟩
