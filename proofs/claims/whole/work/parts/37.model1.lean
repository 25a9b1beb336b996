set_option maxHeartbeats 4000000 in
set_option maxRecDepth 100000 in
theorem c_X8_in (l : Launch) (G : GG) (a : Int64) (b : Int64) (c9 : Int64)  : CT l G yX8_in wsX8_in ({ frames := 0, cells := 0, slots := 0, locals := 0 } : Room) [.long a, .long b, .long c9] [] (fun r _ => r = some (.int (bi (inJ a b c9)))) 0 0 := by
  refine ct_z (cc := cX8_in) (maxL := 6) (by decide +kernel) rfl (Nat.le_of_ble_eq_true rfl) ?_
  intro p e s mt below meth c A Q X hw hret ls hl
  obtain ⟨hx, hb, -⟩ := id X
  have hl : lv_has ls 6 [(0, .long a), (2, .long b), (4, .long c9)] := hl
  refine lv_lload_n hx hb dX8_in_0 rfl (lv_at hl 0 rfl) ?_
  refine lv_lload_n hx hb dX8_in_1 rfl (lv_at hl 1 rfl) ?_
  refine W.lcmp hx hb dX8_in_2 ?_
  refine lv_if_lt (tgt := 17) hx hb dX8_in_3 (by decide) (fun c3 => ?_) (fun c3 => ?_)
  · refine lv_iconst (v := 0) hx hb dX8_in_17 (by decide) ?_
    refine hret _ _ _ _ _ _ dX8_in_18 hw (by first | exact bi_nar _ | decide) ?_
    exact congrArg (fun z => some (Value.int z)) (by first | (rw [inJ_f1 c3]; rfl) | (rw [inJ_f2 c10]; rfl))
  · refine lv_lload_n hx hb dX8_in_6 rfl (lv_at hl 0 rfl) ?_
    refine lv_lload hx hb dX8_in_7 (lv_at hl 2 rfl) ?_
    refine W.lcmp hx hb dX8_in_9 ?_
    refine lv_if_gt (tgt := 17) hx hb dX8_in_10 (by decide) (fun c10 => ?_) (fun c10 => ?_)
    · refine lv_iconst (v := 0) hx hb dX8_in_17 (by decide) ?_
      refine hret _ _ _ _ _ _ dX8_in_18 hw (by first | exact bi_nar _ | decide) ?_
      exact congrArg (fun z => some (Value.int z)) (by first | (rw [inJ_f1 c3]; rfl) | (rw [inJ_f2 c10]; rfl))
    · refine lv_iconst (v := 1) hx hb dX8_in_13 (by decide) ?_
      refine lv_goto (tgt := 18) hx hb dX8_in_14 (by decide) ?_
      refine hret _ _ _ _ _ _ dX8_in_18 hw (by first | exact bi_nar _ | decide) ?_
      exact congrArg (fun z => some (Value.int z)) (by rw [inJ_t c3 c10]; rfl)

set_option maxHeartbeats 4000000 in
set_option maxRecDepth 100000 in
theorem c_X8_isPhase (l : Launch) (G : GG) (x : Int32)  : CT l G yX8_isPhase wsX8_isPhase ({ frames := 1, cells := 0, slots := 0, locals := 25 } : Room) [.int x] [] (fun r _ => r = some (.int (bi (inP x)))) 0 0 := by
  refine ct_z (cc := cX8_isPhase) (maxL := 1) (by decide +kernel) rfl (Nat.le_of_ble_eq_true rfl) ?_
  intro p e s mt below meth c A Q X hw hret ls hl
  obtain ⟨hx, hb, -⟩ := id X
  have hl : lv_has ls 1 [(0, .int x)] := hl
  refine lv_iload_n hx hb dX8_isPhase_0 rfl (lv_at hl 0 rfl) ?_
  refine lv_i2l (v := x.toInt64) hx hb dX8_isPhase_1 (by rfl) ?_
  refine lv_lconst (v := 0) hx hb dX8_isPhase_2 (by decide) ?_
  refine xc2 X (v := 359) (by decide +kernel) dX8_isPhase_3 ?_
  refine xcP (n := 3) (As := [.long x.toInt64, .long 0, .long 359]) (rest := []) X hw (c_X8_in l G x.toInt64 0 359 ) gX8_isPhase_X8_in rfl ⟨rfl, rfl⟩ (by decide +kernel) ⟨by decide, by decide⟩ rfl hl.1 rfl (Nat.le_of_ble_eq_true rfl) dX8_isPhase_6 ⟨by decide, by decide⟩ (fun r w1 H locs hp hw => ?_)
  obtain rfl := hp
  refine W.eq (g2 := F0 mt 9 ls [.int (bi (inJ x.toInt64 0 359))]) rfl ?_
  refine x_cvi (y := bi (inP x)) (by rw [inJ_P]) ?_
  refine hret _ _ _ _ _ _ dX8_isPhase_9 hw (by first | exact bi_nar _ | decide) ?_
  rfl

set_option maxHeartbeats 4000000 in
set_option maxRecDepth 100000 in
theorem c_X8_isWhat (l : Launch) (G : GG) (x : Int32)  : CT l G yX8_isWhat wsX8_isWhat ({ frames := 1, cells := 0, slots := 0, locals := 25 } : Room) [.int x] [] (fun r _ => r = some (.int (bi (inA x)))) 0 0 := by
  refine ct_z (cc := cX8_isWhat) (maxL := 1) (by decide +kernel) rfl (Nat.le_of_ble_eq_true rfl) ?_
  intro p e s mt below meth c A Q X hw hret ls hl
  obtain ⟨hx, hb, -⟩ := id X
  have hl : lv_has ls 1 [(0, .int x)] := hl
  refine lv_iload_n hx hb dX8_isWhat_0 rfl (lv_at hl 0 rfl) ?_
  refine lv_i2l (v := x.toInt64) hx hb dX8_isWhat_1 (by rfl) ?_
  refine lv_lconst (v := 0) hx hb dX8_isWhat_2 (by decide) ?_
  refine xc2 X (v := 2) (by decide +kernel) dX8_isWhat_3 ?_
  refine xcP (n := 3) (As := [.long x.toInt64, .long 0, .long 2]) (rest := []) X hw (c_X8_in l G x.toInt64 0 2 ) gX8_isWhat_X8_in rfl ⟨rfl, rfl⟩ (by decide +kernel) ⟨by decide, by decide⟩ rfl hl.1 rfl (Nat.le_of_ble_eq_true rfl) dX8_isWhat_6 ⟨by decide, by decide⟩ (fun r w1 H locs hp hw => ?_)
  obtain rfl := hp
  refine W.eq (g2 := F0 mt 9 ls [.int (bi (inJ x.toInt64 0 2))]) rfl ?_
  refine x_cvi (y := bi (decide (0 ≤ x) && decide (x ≤ 2))) (by rw [inJ_2]) ?_
  refine lv_if_ne (tgt := 18) hx hb dX8_isWhat_9 (by decide) (fun c9 => ?_) (fun c9 => ?_)
  · have hi := bi_t c9
    refine lv_iconst (v := 1) hx hb dX8_isWhat_18 (by decide) ?_
    refine lv_goto (tgt := 23) hx hb dX8_isWhat_19 (by decide) ?_
    refine hret _ _ _ _ _ _ dX8_isWhat_23 hw (by first | exact bi_nar _ | decide) ?_
    exact congrArg (fun z => some (Value.int z)) (by unfold inA; rw [hi]; first | rfl | (rw [decide_eq_true (show (10 : Int32) ≤ x from Int32.not_lt.mp c15)]; rfl) | (rw [decide_eq_false (fun q => absurd c15 (Int32.not_lt.mpr q))]; rfl))
  · have hi := bi_f c9
    refine lv_iload_n hx hb dX8_isWhat_12 rfl (lv_at hl 0 rfl) ?_
    refine lv_bipush (v := 10) hx hb dX8_isWhat_13 (by decide) ?_
    refine lv_icmp_lt (tgt := 22) hx hb dX8_isWhat_15 (by decide) (fun c15 => ?_) (fun c15 => ?_)
    · refine lv_iconst (v := 0) hx hb dX8_isWhat_22 (by decide) ?_
      refine hret _ _ _ _ _ _ dX8_isWhat_23 hw (by first | exact bi_nar _ | decide) ?_
      exact congrArg (fun z => some (Value.int z)) (by unfold inA; rw [hi]; first | rfl | (rw [decide_eq_true (show (10 : Int32) ≤ x from Int32.not_lt.mp c15)]; rfl) | (rw [decide_eq_false (fun q => absurd c15 (Int32.not_lt.mpr q))]; rfl))
    · refine lv_iconst (v := 1) hx hb dX8_isWhat_18 (by decide) ?_
      refine lv_goto (tgt := 23) hx hb dX8_isWhat_19 (by decide) ?_
      refine hret _ _ _ _ _ _ dX8_isWhat_23 hw (by first | exact bi_nar _ | decide) ?_
      exact congrArg (fun z => some (Value.int z)) (by unfold inA; rw [hi]; first | rfl | (rw [decide_eq_true (show (10 : Int32) ≤ x from Int32.not_lt.mp c15)]; rfl) | (rw [decide_eq_false (fun q => absurd c15 (Int32.not_lt.mpr q))]; rfl))

set_option maxHeartbeats 4000000 in
set_option maxRecDepth 100000 in
theorem c_X8_over (l : Launch) (G : GG) (x : Int32)  : CT l G yX8_over wsX8_over ({ frames := 0, cells := 0, slots := 0, locals := 0 } : Room) [.int x] [] (fun r _ => r = some (.int (fm x 360))) 0 0 := by
  refine ct_i (cc := cX8_over) (maxL := 1) (by decide +kernel) rfl (Nat.le_of_ble_eq_true rfl) ?_
  intro p e s mt below meth c A Q X hw hret ls hl
  obtain ⟨hx, hb, -⟩ := id X
  have hl : lv_has ls 1 [(0, .int x)] := hl
  refine lv_iload_n hx hb dX8_over_0 rfl (lv_at hl 0 rfl) ?_
  refine lv_sipush (v := 360) hx hb dX8_over_1 (by decide) ?_
  refine lv_irem hx hb dX8_over_4 (by decide) ?_
  refine lv_sipush (v := 360) hx hb dX8_over_5 (by decide) ?_
  refine lv_iadd hx hb dX8_over_8 ?_
  refine lv_sipush (v := 360) hx hb dX8_over_9 (by decide) ?_
  refine lv_irem hx hb dX8_over_12 (by decide) ?_
  refine hret _ _ _ _ _ _ dX8_over_13 hw ?_
  exact congrArg (fun z => some (Value.int z)) (by exact over_eq x)

set_option maxHeartbeats 4000000 in
set_option maxRecDepth 100000 in
theorem c_X8_halved (l : Launch) (G : GG) (n : Nat) (hn : n ≤ 100) : CT l G yX8_halved wsX8_halved ({ frames := 0, cells := 0, slots := 0, locals := 0 } : Room) [.int (nI n)] [] (fun r _ => r = some (.int (nI (n * (n + 1) / 2)))) 0 0 := by
  refine ct_i (cc := cX8_halved) (maxL := 1) (by decide +kernel) rfl (Nat.le_of_ble_eq_true rfl) ?_
  intro p e s mt below meth c A Q X hw hret ls hl
  obtain ⟨hx, hb, -⟩ := id X
  have hl : lv_has ls 1 [(0, .int (nI n))] := hl
  have hnn : n * (n + 1) ≤ 100 * 101 := Nat.mul_le_mul hn (by omega)
  refine lv_iload_n hx hb dX8_halved_0 rfl (lv_at hl 0 rfl) ?_
  refine lv_iload_n hx hb dX8_halved_1 rfl (lv_at hl 0 rfl) ?_
  refine lv_iconst (v := 1) hx hb dX8_halved_2 (by decide) ?_
  refine lv_iadd hx hb dX8_halved_3 ?_
  refine x_cvi (y := nI (n + 1)) (by exact nI_1 _) ?_
  refine lv_imul hx hb dX8_halved_4 ?_
  refine x_cvi (y := nI (n * (n + 1))) (by exact pk_mul _ _) ?_
  refine lv_iconst (v := 2) hx hb dX8_halved_5 (by decide) ?_
  refine lv_idiv hx hb dX8_halved_6 (by decide) ?_
  refine x_cvi (y := nI (n * (n + 1) / 2)) (by exact pk_div (d := 2) (by omega) (by decide) (by decide)) ?_
  refine hret _ _ _ _ _ _ dX8_halved_7 hw ?_
  rfl

set_option maxHeartbeats 4000000 in
set_option maxRecDepth 100000 in
theorem c_X8_isDish (l : Launch) (G : GG) (mo : Nat) (th : Nat) (ea : Nat) (sa : Nat) (lk : Nat) (lq : Nat) (lz : Nat) (rb : Nat) (rn : Nat) (rt : Nat) (rk : Nat) (cb : Nat) (cm : Nat) (cu : Nat) (ck : Nat) (mk : Nat) (nt : Nat) (kp : Nat) (iq : Nat) (lg : Int32) (un : Int32) (tm : Int32) (kr : Int32) (kc : Int32) (se : Int32) (tr : Int32) (ka : Int32) (wr : Int32) (m : Nat) (x : Int32)  : CT l G yX8_isDish wsX8_isDish ({ frames := 1, cells := 0, slots := 0, locals := 25 } : Room) [.ref mo, .int x] [(mo, .inr (5, [.ref th, .ref ea, .ref sa, .ref lk, .ref lq, .ref lz, .int lg, .int un, .int tm, .ref rb, .ref rn, .ref rt, .ref rk, .int kr, .ref cb, .ref cm, .ref cu, .ref ck, .int kc, .int se, .int tr, .ref mk, .ref nt, .ref kp, .ref iq, .int ka, .int wr])), (th, .inl (G.2.1, 61, .inl (tB m)))] (fun r w => r = some (.int (bi (stn m x))) ∧ w = [(mo, .inr (5, [.ref th, .ref ea, .ref sa, .ref lk, .ref lq, .ref lz, .int lg, .int un, .int tm, .ref rb, .ref rn, .ref rt, .ref rk, .int kr, .ref cb, .ref cm, .ref cu, .ref ck, .int kc, .int se, .int tr, .ref mk, .ref nt, .ref kp, .ref iq, .int ka, .int wr])), (th, .inl (G.2.1, 61, .inl (tB m)))]) 0 0 := by
  refine ct_z (cc := cX8_isDish) (maxL := 2) (by decide +kernel) rfl (Nat.le_of_ble_eq_true rfl) ?_
  intro p e s mt below meth c A Q X hw hret ls hl
  obtain ⟨hx, hb, -⟩ := id X
  have hl : lv_has ls 2 [(0, .ref mo), (1, .int x)] := hl
  refine lv_iload_n hx hb dX8_isDish_0 rfl (lv_at hl 1 rfl) ?_
  refine lv_i2l (v := x.toInt64) hx hb dX8_isDish_1 (by rfl) ?_
  refine lv_lconst (v := 0) hx hb dX8_isDish_2 (by decide) ?_
  refine xc2 X (v := 60) (by decide +kernel) dX8_isDish_3 ?_
  refine xcP (n := 3) (As := [.long x.toInt64, .long 0, .long 60]) (rest := []) X hw (c_X8_in l G x.toInt64 0 60 ) gX8_isDish_X8_in rfl ⟨rfl, rfl⟩ (by decide +kernel) ⟨by decide, by decide⟩ rfl hl.1 rfl (Nat.le_of_ble_eq_true rfl) dX8_isDish_6 ⟨by decide, by decide⟩ (fun r w1 H locs hp hw => ?_)
  obtain rfl := hp
  refine W.eq (g2 := F0 mt 9 ls [.int (bi (inJ x.toInt64 0 60))]) rfl ?_
  refine x_cvi (y := bi (inS x)) (by rw [inJ_S]) ?_
  refine lv_if_eq (tgt := 26) hx hb dX8_isDish_9 (by decide) (fun c9 => ?_) (fun c9 => ?_)
  · have hi := bi_f c9
    refine lv_iconst (v := 0) hx hb dX8_isDish_26 (by decide) ?_
    refine hret _ _ _ _ _ _ dX8_isDish_27 hw (by first | exact bi_nar _ | decide) ?_
    exact ⟨congrArg (fun z => some (Value.int z)) (by first | (rw [hxj, stn_nI hj, tB_n c19]; rfl) | (unfold stn; rw [hi]; rfl)), rfl⟩
  · have hi := bi_t c9
    obtain ⟨j, hj, hxj⟩ := inS_of hi
    refine lv_aload_n hx hb dX8_isDish_12 rfl (lv_at hl 0 rfl) ?_
    refine xg X hw (C := RX8) (T := TX8) (N := 27) (by decide +kernel) 0 rfl rfl 0 (by decide) rfl (by decide +kernel) rfl dX8_isDish_13 ?_
    refine lv_iload_n hx hb dX8_isDish_16 rfl (lv_at hl 1 rfl) ?_
    refine xia X hw 1 rfl (j := j) (hxj) (by omega) (by decide) dX8_isDish_17 ?_
    refine lv_iconst (v := 1) hx hb dX8_isDish_18 (by decide) ?_
    refine lv_icmp_ne (tgt := 26) hx hb dX8_isDish_19 (by decide) (fun c19 => ?_) (fun c19 => ?_)
    · refine lv_iconst (v := 0) hx hb dX8_isDish_26 (by decide) ?_
      refine hret _ _ _ _ _ _ dX8_isDish_27 hw (by first | exact bi_nar _ | decide) ?_
      exact ⟨congrArg (fun z => some (Value.int z)) (by first | (rw [hxj, stn_nI hj, tB_n c19]; rfl) | (unfold stn; rw [hi]; rfl)), rfl⟩
    · refine lv_iconst (v := 1) hx hb dX8_isDish_22 (by decide) ?_
      refine lv_goto (tgt := 27) hx hb dX8_isDish_23 (by decide) ?_
      refine hret _ _ _ _ _ _ dX8_isDish_27 hw (by first | exact bi_nar _ | decide) ?_
      exact ⟨congrArg (fun z => some (Value.int z)) (by rw [hxj, stn_nI hj, tB_1 c19]; rfl), rfl⟩

set_option maxHeartbeats 4000000 in
set_option maxRecDepth 100000 in
theorem c_X8_dishes (l : Launch) (G : GG) (mo : Nat) (th : Nat) (ea : Nat) (sa : Nat) (lk : Nat) (lq : Nat) (lz : Nat) (rb : Nat) (rn : Nat) (rt : Nat) (rk : Nat) (cb : Nat) (cm : Nat) (cu : Nat) (ck : Nat) (mk : Nat) (nt : Nat) (kp : Nat) (iq : Nat) (lg : Int32) (un : Int32) (tm : Int32) (kr : Int32) (kc : Int32) (se : Int32) (tr : Int32) (ka : Int32) (wr : Int32) (m : Nat) (hm : m < 2 ^ 61) : CT l G yX8_dishes wsX8_dishes ({ frames := 0, cells := 0, slots := 0, locals := 0 } : Room) [.ref mo] [(mo, .inr (5, [.ref th, .ref ea, .ref sa, .ref lk, .ref lq, .ref lz, .int lg, .int un, .int tm, .ref rb, .ref rn, .ref rt, .ref rk, .int kr, .ref cb, .ref cm, .ref cu, .ref ck, .int kc, .int se, .int tr, .ref mk, .ref nt, .ref kp, .ref iq, .int ka, .int wr])), (th, .inl (G.2.1, 61, .inl (tB m)))] (fun r w => r = some (.int (nI (pcN 64 m))) ∧ w = [(mo, .inr (5, [.ref th, .ref ea, .ref sa, .ref lk, .ref lq, .ref lz, .int lg, .int un, .int tm, .ref rb, .ref rn, .ref rt, .ref rk, .int kr, .ref cb, .ref cm, .ref cu, .ref ck, .int kc, .int se, .int tr, .ref mk, .ref nt, .ref kp, .ref iq, .int ka, .int wr])), (th, .inl (G.2.1, 61, .inl (tB m)))]) 0 0 := by
  refine ct_i (cc := cX8_dishes) (maxL := 3) (by decide +kernel) rfl (Nat.le_of_ble_eq_true rfl) ?_
  intro p e s mt below meth c A Q X hw hret ls hl
  obtain ⟨hx, hb, -⟩ := id X
  have hl : lv_has ls 3 [(0, .ref mo)] := hl
  refine lv_iconst (v := 0) hx hb dX8_dishes_0 (by decide) ?_
  refine x_cvi (y := nI 0) (by rfl) ?_
  refine lv_istore_n (lv' := [(1, .int (nI 0)), (0, .ref mo)]) hx hb dX8_dishes_1 rfl hl (by decide) rfl (fun ls hl => ?_)
  refine lv_iconst (v := 0) hx hb dX8_dishes_2 (by decide) ?_
  refine x_cvi (y := nI 0) (by rfl) ?_
  refine lv_istore_n (lv' := [(2, .int (nI 0)), (1, .int (nI 0)), (0, .ref mo)]) hx hb dX8_dishes_3 rfl hl (by decide) rfl (fun ls hl => ?_)
  have lp4 : ∀ (fu : Nat) (q : Nat) (a : Nat) (H : Heap) (locs : List Loc) (ls : Array Slot), 61 - q < fu → (q ≤ 61) → (a = fb_ct (fun k => m.testBit k) q) → WS G A s.heap H locs [(mo, .inr (5, [.ref th, .ref ea, .ref sa, .ref lk, .ref lq, .ref lz, .int lg, .int un, .int tm, .ref rb, .ref rn, .ref rt, .ref rk, .int kr, .ref cb, .ref cm, .ref cu, .ref ck, .int kc, .int se, .int tr, .ref mk, .ref nt, .ref kp, .ref iq, .int ka, .int wr])), (th, .inl (G.2.1, 61, .inl (tB m)))] → lv_has ls 3 [(0, .ref mo), (1, .int (nI a)), (2, .int (nI q))] → W p l e ({ frames := 0, cells := 0, slots := 0, locals := 0 } : Room) s mt ([.ref mo] : List Value).toArray below meth c H locs 0 0 Q (F0 mt 4 ls []) := by
    intro fu
    induction fu with
    | zero =>
      intro q a H locs ls hmu
      exact absurd hmu (Nat.not_lt_zero _)
    | succ fu ih4 =>
      intro q a H locs ls hmu4 hq ha hw hl
      refine lv_iload_n hx hb dX8_dishes_4 rfl (lv_at hl 2 rfl) ?_
      refine lv_bipush (v := 60) hx hb dX8_dishes_5 (by decide) ?_
      refine lv_icmp_gt (tgt := 25) hx hb dX8_dishes_7 (by decide) (fun c7 => ?_) (fun c7 => ?_)
      · have hk2 : 60 < q := i_lt (by decide) (by omega) c7
        refine lv_iload_n hx hb dX8_dishes_25 rfl (lv_at hl 1 rfl) ?_
        refine hret _ _ _ _ _ _ dX8_dishes_26 hw ?_
        exact ⟨congrArg (fun z => some (Value.int z)) (by rw [ha, show q = 61 by omega, pcN_61 hm]), rfl⟩
      · have hk2 : q ≤ 60 := i_nlt (by decide) (by omega) c7
        refine lv_iload_n hx hb dX8_dishes_10 rfl (lv_at hl 1 rfl) ?_
        refine lv_aload_n hx hb dX8_dishes_11 rfl (lv_at hl 0 rfl) ?_
        refine xg X hw (C := RX8) (T := TX8) (N := 27) (by decide +kernel) 0 rfl rfl 0 (by decide) rfl (by decide +kernel) rfl dX8_dishes_12 ?_
        refine lv_iload_n hx hb dX8_dishes_15 rfl (lv_at hl 2 rfl) ?_
        refine xia X hw 1 rfl (j := q) (rfl) (by omega) (by decide) dX8_dishes_16 ?_
        refine lv_iadd hx hb dX8_dishes_17 ?_
        refine x_cvi (y := nI (fb_ct (fun k => m.testBit k) (q + 1))) (by exact tB_add _ _ _ ha) ?_
        refine lv_istore_n (lv' := [(1, .int (nI (fb_ct (fun k => m.testBit k) (q + 1)))), (0, .ref mo), (2, .int (nI q))]) hx hb dX8_dishes_18 rfl hl (by decide) rfl (fun ls hl => ?_)
        refine lv_iinc (v := nI (q + 1)) (lv' := [(2, .int (nI (q + 1))), (1, .int (nI (fb_ct (fun k => m.testBit k) (q + 1)))), (0, .ref mo)]) hx hb dX8_dishes_19 hl (k := 2) rfl (by exact nI_1 _) (by decide) rfl (fun ls hl => ?_)
        refine lv_goto (tgt := 4) hx hb dX8_dishes_22 (by decide) ?_
        exact ih4 (q + 1) (fb_ct (fun k => m.testBit k) (q + 1)) _ _ _ (by omega) (by omega) (rfl) hw (lv_sub hl [2, 1, 0] rfl)
  exact lp4 _ 0 0 _ _ _ (Nat.lt_succ_self _) (by decide) (rfl) hw (lv_sub hl [2, 1, 0] rfl)

set_option maxHeartbeats 4000000 in
set_option maxRecDepth 100000 in
theorem c_X8_log (l : Launch) (G : GG) (mo : Nat) (th : Nat) (ea : Nat) (sa : Nat) (lk : Nat) (lq : Nat) (lz : Nat) (rb : Nat) (rn : Nat) (rt : Nat) (rk : Nat) (cb : Nat) (cm : Nat) (cu : Nat) (ck : Nat) (mk : Nat) (nt : Nat) (kp : Nat) (iq : Nat) (un : Int32) (tm : Int32) (kr : Int32) (kc : Int32) (se : Int32) (tr : Int32) (ka : Int32) (wr : Int32) (cn : Nat) (f1 : Nat → Int32) (f2 : Nat → Int32) (f3 : Nat → Int32) (y : Int32) (x : Int32) (v : Int32) (hc : cn ≤ 16) : CT l G yX8_log wsX8_log ({ frames := 0, cells := 0, slots := 0, locals := 0 } : Room) [.ref mo, .int y, .int x, .int v] [(mo, .inr (5, [.ref th, .ref ea, .ref sa, .ref lk, .ref lq, .ref lz, .int (nI cn), .int un, .int tm, .ref rb, .ref rn, .ref rt, .ref rk, .int kr, .ref cb, .ref cm, .ref cu, .ref ck, .int kc, .int se, .int tr, .ref mk, .ref nt, .ref kp, .ref iq, .int ka, .int wr])), (lk, .inl (G.2.1, 16, .inl f1)), (lq, .inl (G.2.1, 16, .inl f2)), (lz, .inl (G.2.1, 16, .inl f3))] (fun r w => r = none ∧ w = [(mo, .inr (5, [.ref th, .ref ea, .ref sa, .ref lk, .ref lq, .ref lz, .int (nI (lgc cn)), .int un, .int tm, .ref rb, .ref rn, .ref rt, .ref rk, .int kr, .ref cb, .ref cm, .ref cu, .ref ck, .int kc, .int se, .int tr, .ref mk, .ref nt, .ref kp, .ref iq, .int ka, .int wr])), (lk, .inl (G.2.1, 16, .inl (lgA cn f1 y))), (lq, .inl (G.2.1, 16, .inl (lgA cn f2 x))), (lz, .inl (G.2.1, 16, .inl (lgA cn f3 v)))]) 0 0 := by
  refine ct_v (cc := cX8_log) (maxL := 5) (by decide +kernel) rfl (Nat.le_of_ble_eq_true rfl) ?_
  intro p e s mt below meth c A Q X hw hret ls hl
  obtain ⟨hx, hb, -⟩ := id X
  have hl : lv_has ls 5 [(0, .ref mo), (1, .int y), (2, .int x), (3, .int v)] := hl
  refine lv_aload_n hx hb dX8_log_0 rfl (lv_at hl 0 rfl) ?_
  refine xg X hw (C := RX8) (T := TX8) (N := 27) (by decide +kernel) 0 rfl rfl 6 (by decide) rfl (by decide +kernel) rfl dX8_log_1 ?_
  refine lv_bipush (v := 16) hx hb dX8_log_4 (by decide) ?_
  refine lv_icmp_ne (tgt := 85) hx hb dX8_log_6 (by decide) (fun c6 => ?_) (fun c6 => ?_)
  · have hne : cn ≠ 16 := i_ne c6
    refine lv_aload_n hx hb dX8_log_85 rfl (lv_at hl 0 rfl) ?_
    refine xg X hw (C := RX8) (T := TX8) (N := 27) (by decide +kernel) 0 rfl rfl 3 (by decide) rfl (by decide +kernel) rfl dX8_log_86 ?_
    refine lv_aload_n hx hb dX8_log_89 rfl (lv_at hl 0 rfl) ?_
    refine xg X hw (C := RX8) (T := TX8) (N := 27) (by decide +kernel) 0 rfl rfl 6 (by decide) rfl (by decide +kernel) rfl dX8_log_90 ?_
    refine lv_iload_n hx hb dX8_log_93 rfl (lv_at hl 1 rfl) ?_
    refine xis X hw 1 rfl (j := cn) (rfl) (by omega) (by decide) dX8_log_94 (ws' := [(mo, .inr (5, [.ref th, .ref ea, .ref sa, .ref lk, .ref lq, .ref lz, .int (nI cn), .int un, .int tm, .ref rb, .ref rn, .ref rt, .ref rk, .int kr, .ref cb, .ref cm, .ref cu, .ref ck, .int kc, .int se, .int tr, .ref mk, .ref nt, .ref kp, .ref iq, .int ka, .int wr])), (lk, .inl (G.2.1, 16, .inl (upd f1 cn y))), (lq, .inl (G.2.1, 16, .inl f2)), (lz, .inl (G.2.1, 16, .inl f3))]) rfl (fun H locs hw => ?_)
    refine lv_aload_n hx hb dX8_log_95 rfl (lv_at hl 0 rfl) ?_
    refine xg X hw (C := RX8) (T := TX8) (N := 27) (by decide +kernel) 0 rfl rfl 4 (by decide) rfl (by decide +kernel) rfl dX8_log_96 ?_
    refine lv_aload_n hx hb dX8_log_99 rfl (lv_at hl 0 rfl) ?_
    refine xg X hw (C := RX8) (T := TX8) (N := 27) (by decide +kernel) 0 rfl rfl 6 (by decide) rfl (by decide +kernel) rfl dX8_log_100 ?_
    refine lv_iload_n hx hb dX8_log_103 rfl (lv_at hl 2 rfl) ?_
    refine xis X hw 2 rfl (j := cn) (rfl) (by omega) (by decide) dX8_log_104 (ws' := [(mo, .inr (5, [.ref th, .ref ea, .ref sa, .ref lk, .ref lq, .ref lz, .int (nI cn), .int un, .int tm, .ref rb, .ref rn, .ref rt, .ref rk, .int kr, .ref cb, .ref cm, .ref cu, .ref ck, .int kc, .int se, .int tr, .ref mk, .ref nt, .ref kp, .ref iq, .int ka, .int wr])), (lk, .inl (G.2.1, 16, .inl (upd f1 cn y))), (lq, .inl (G.2.1, 16, .inl (upd f2 cn x))), (lz, .inl (G.2.1, 16, .inl f3))]) rfl (fun H locs hw => ?_)
    refine lv_aload_n hx hb dX8_log_105 rfl (lv_at hl 0 rfl) ?_
    refine xg X hw (C := RX8) (T := TX8) (N := 27) (by decide +kernel) 0 rfl rfl 5 (by decide) rfl (by decide +kernel) rfl dX8_log_106 ?_
    refine lv_aload_n hx hb dX8_log_109 rfl (lv_at hl 0 rfl) ?_
    refine xg X hw (C := RX8) (T := TX8) (N := 27) (by decide +kernel) 0 rfl rfl 6 (by decide) rfl (by decide +kernel) rfl dX8_log_110 ?_
    refine lv_iload_n hx hb dX8_log_113 rfl (lv_at hl 3 rfl) ?_
    refine xis X hw 3 rfl (j := cn) (rfl) (by omega) (by decide) dX8_log_114 (ws' := [(mo, .inr (5, [.ref th, .ref ea, .ref sa, .ref lk, .ref lq, .ref lz, .int (nI cn), .int un, .int tm, .ref rb, .ref rn, .ref rt, .ref rk, .int kr, .ref cb, .ref cm, .ref cu, .ref ck, .int kc, .int se, .int tr, .ref mk, .ref nt, .ref kp, .ref iq, .int ka, .int wr])), (lk, .inl (G.2.1, 16, .inl (upd f1 cn y))), (lq, .inl (G.2.1, 16, .inl (upd f2 cn x))), (lz, .inl (G.2.1, 16, .inl (upd f3 cn v)))]) rfl (fun H locs hw => ?_)
    refine lv_aload_n hx hb dX8_log_115 rfl (lv_at hl 0 rfl) ?_
    refine lv_dup hx hb dX8_log_116 rfl ?_
    refine xg X hw (C := RX8) (T := TX8) (N := 27) (by decide +kernel) 0 rfl rfl 6 (by decide) rfl (by decide +kernel) rfl dX8_log_117 ?_
    refine lv_iconst (v := 1) hx hb dX8_log_120 (by decide) ?_
    refine lv_iadd hx hb dX8_log_121 ?_
    refine x_cvi (y := nI (cn + 1)) (by exact nI_1 _) ?_
    refine xp X hw (C := RX8) (ty := .int) (T := TX8) (N := 27) (by decide +kernel) tyX8 tyX8_ok nmX8 0 rfl rfl 6 (by decide) rfl (by decide +kernel) rfl (by decide +kernel) rfl rfl (Nat.le_of_ble_eq_true rfl) dX8_log_122 (ws' := [(mo, .inr (5, [.ref th, .ref ea, .ref sa, .ref lk, .ref lq, .ref lz, .int (nI (cn + 1)), .int un, .int tm, .ref rb, .ref rn, .ref rt, .ref rk, .int kr, .ref cb, .ref cm, .ref cu, .ref ck, .int kc, .int se, .int tr, .ref mk, .ref nt, .ref kp, .ref iq, .int ka, .int wr])), (lk, .inl (G.2.1, 16, .inl (upd f1 cn y))), (lq, .inl (G.2.1, 16, .inl (upd f2 cn x))), (lz, .inl (G.2.1, 16, .inl (upd f3 cn v)))]) rfl (fun H locs hw => ?_)
    refine hret _ _ _ _ _ dX8_log_125 hw ?_
    exact ⟨rfl, by rw [lgA_2 _ hne, lgA_2 _ hne, lgA_2 _ hne, lgc_2 (by omega)]⟩
  · have h16 : cn = 16 := i_eq (b := 16) (by omega) (by decide) c6
    refine lv_aload_n hx hb dX8_log_9 rfl (lv_at hl 0 rfl) ?_
    refine lv_dup hx hb dX8_log_10 rfl ?_
    refine xg X hw (C := RX8) (T := TX8) (N := 27) (by decide +kernel) 0 rfl rfl 6 (by decide) rfl (by decide +kernel) rfl dX8_log_11 ?_
    refine lv_iconst (v := 1) hx hb dX8_log_14 (by decide) ?_
    refine lv_isub hx hb dX8_log_15 ?_
    refine x_cvi (y := nI 15) (by rw [h16]; rfl) ?_
    refine xp X hw (C := RX8) (ty := .int) (T := TX8) (N := 27) (by decide +kernel) tyX8 tyX8_ok nmX8 0 rfl rfl 6 (by decide) rfl (by decide +kernel) rfl (by decide +kernel) rfl rfl (Nat.le_of_ble_eq_true rfl) dX8_log_16 (ws' := [(mo, .inr (5, [.ref th, .ref ea, .ref sa, .ref lk, .ref lq, .ref lz, .int (nI 15), .int un, .int tm, .ref rb, .ref rn, .ref rt, .ref rk, .int kr, .ref cb, .ref cm, .ref cu, .ref ck, .int kc, .int se, .int tr, .ref mk, .ref nt, .ref kp, .ref iq, .int ka, .int wr])), (lk, .inl (G.2.1, 16, .inl f1)), (lq, .inl (G.2.1, 16, .inl f2)), (lz, .inl (G.2.1, 16, .inl f3))]) rfl (fun H locs hw => ?_)
    refine lv_iconst (v := 0) hx hb dX8_log_19 (by decide) ?_
    refine x_cvi (y := nI 0) (by rfl) ?_
    refine lv_istore (lv' := [(4, .int (nI 0)), (0, .ref mo), (1, .int y), (2, .int x), (3, .int v)]) hx hb dX8_log_20 hl (by decide) rfl (fun ls hl => ?_)
    have lp22 : ∀ (fu : Nat) (k : Nat) (H : Heap) (locs : List Loc) (ls : Array Slot), 15 - k < fu → (k ≤ 15) → WS G A s.heap H locs [(mo, .inr (5, [.ref th, .ref ea, .ref sa, .ref lk, .ref lq, .ref lz, .int (nI 15), .int un, .int tm, .ref rb, .ref rn, .ref rt, .ref rk, .int kr, .ref cb, .ref cm, .ref cu, .ref ck, .int kc, .int se, .int tr, .ref mk, .ref nt, .ref kp, .ref iq, .int ka, .int wr])), (lk, .inl (G.2.1, 16, .inl (shF f1 k))), (lq, .inl (G.2.1, 16, .inl (shF f2 k))), (lz, .inl (G.2.1, 16, .inl (shF f3 k)))] → lv_has ls 5 [(0, .ref mo), (1, .int y), (2, .int x), (3, .int v), (4, .int (nI k))] → W p l e ({ frames := 0, cells := 0, slots := 0, locals := 0 } : Room) s mt ([.ref mo, .int y, .int x, .int v] : List Value).toArray below meth c H locs 0 0 Q (F0 mt 22 ls []) := by
      intro fu
      induction fu with
      | zero =>
        intro k H locs ls hmu
        exact absurd hmu (Nat.not_lt_zero _)
      | succ fu ih22 =>
        intro k H locs ls hmu22 hk hw hl
        refine lv_iload hx hb dX8_log_22 (lv_at hl 4 rfl) ?_
        refine lv_aload_n hx hb dX8_log_24 rfl (lv_at hl 0 rfl) ?_
        refine xg X hw (C := RX8) (T := TX8) (N := 27) (by decide +kernel) 0 rfl rfl 6 (by decide) rfl (by decide +kernel) rfl dX8_log_25 ?_
        refine lv_icmp_ge (tgt := 85) hx hb dX8_log_28 (by decide) (fun c28 => ?_) (fun c28 => ?_)
        · have hk2 : 15 ≤ k := i_le (a := 15) (by decide) (by omega) c28
          refine lv_aload_n hx hb dX8_log_85 rfl (lv_at hl 0 rfl) ?_
          refine xg X hw (C := RX8) (T := TX8) (N := 27) (by decide +kernel) 0 rfl rfl 3 (by decide) rfl (by decide +kernel) rfl dX8_log_86 ?_
          refine lv_aload_n hx hb dX8_log_89 rfl (lv_at hl 0 rfl) ?_
          refine xg X hw (C := RX8) (T := TX8) (N := 27) (by decide +kernel) 0 rfl rfl 6 (by decide) rfl (by decide +kernel) rfl dX8_log_90 ?_
          refine lv_iload_n hx hb dX8_log_93 rfl (lv_at hl 1 rfl) ?_
          refine xis X hw 1 rfl (j := 15) (rfl) (by omega) (by decide) dX8_log_94 (ws' := [(mo, .inr (5, [.ref th, .ref ea, .ref sa, .ref lk, .ref lq, .ref lz, .int (nI 15), .int un, .int tm, .ref rb, .ref rn, .ref rt, .ref rk, .int kr, .ref cb, .ref cm, .ref cu, .ref ck, .int kc, .int se, .int tr, .ref mk, .ref nt, .ref kp, .ref iq, .int ka, .int wr])), (lk, .inl (G.2.1, 16, .inl (upd (shF f1 k) 15 y))), (lq, .inl (G.2.1, 16, .inl (shF f2 k))), (lz, .inl (G.2.1, 16, .inl (shF f3 k)))]) rfl (fun H locs hw => ?_)
          refine lv_aload_n hx hb dX8_log_95 rfl (lv_at hl 0 rfl) ?_
          refine xg X hw (C := RX8) (T := TX8) (N := 27) (by decide +kernel) 0 rfl rfl 4 (by decide) rfl (by decide +kernel) rfl dX8_log_96 ?_
          refine lv_aload_n hx hb dX8_log_99 rfl (lv_at hl 0 rfl) ?_
          refine xg X hw (C := RX8) (T := TX8) (N := 27) (by decide +kernel) 0 rfl rfl 6 (by decide) rfl (by decide +kernel) rfl dX8_log_100 ?_
          refine lv_iload_n hx hb dX8_log_103 rfl (lv_at hl 2 rfl) ?_
          refine xis X hw 2 rfl (j := 15) (rfl) (by omega) (by decide) dX8_log_104 (ws' := [(mo, .inr (5, [.ref th, .ref ea, .ref sa, .ref lk, .ref lq, .ref lz, .int (nI 15), .int un, .int tm, .ref rb, .ref rn, .ref rt, .ref rk, .int kr, .ref cb, .ref cm, .ref cu, .ref ck, .int kc, .int se, .int tr, .ref mk, .ref nt, .ref kp, .ref iq, .int ka, .int wr])), (lk, .inl (G.2.1, 16, .inl (upd (shF f1 k) 15 y))), (lq, .inl (G.2.1, 16, .inl (upd (shF f2 k) 15 x))), (lz, .inl (G.2.1, 16, .inl (shF f3 k)))]) rfl (fun H locs hw => ?_)
          refine lv_aload_n hx hb dX8_log_105 rfl (lv_at hl 0 rfl) ?_
          refine xg X hw (C := RX8) (T := TX8) (N := 27) (by decide +kernel) 0 rfl rfl 5 (by decide) rfl (by decide +kernel) rfl dX8_log_106 ?_
          refine lv_aload_n hx hb dX8_log_109 rfl (lv_at hl 0 rfl) ?_
          refine xg X hw (C := RX8) (T := TX8) (N := 27) (by decide +kernel) 0 rfl rfl 6 (by decide) rfl (by decide +kernel) rfl dX8_log_110 ?_
          refine lv_iload_n hx hb dX8_log_113 rfl (lv_at hl 3 rfl) ?_
          refine xis X hw 3 rfl (j := 15) (rfl) (by omega) (by decide) dX8_log_114 (ws' := [(mo, .inr (5, [.ref th, .ref ea, .ref sa, .ref lk, .ref lq, .ref lz, .int (nI 15), .int un, .int tm, .ref rb, .ref rn, .ref rt, .ref rk, .int kr, .ref cb, .ref cm, .ref cu, .ref ck, .int kc, .int se, .int tr, .ref mk, .ref nt, .ref kp, .ref iq, .int ka, .int wr])), (lk, .inl (G.2.1, 16, .inl (upd (shF f1 k) 15 y))), (lq, .inl (G.2.1, 16, .inl (upd (shF f2 k) 15 x))), (lz, .inl (G.2.1, 16, .inl (upd (shF f3 k) 15 v)))]) rfl (fun H locs hw => ?_)
          refine lv_aload_n hx hb dX8_log_115 rfl (lv_at hl 0 rfl) ?_
          refine lv_dup hx hb dX8_log_116 rfl ?_
          refine xg X hw (C := RX8) (T := TX8) (N := 27) (by decide +kernel) 0 rfl rfl 6 (by decide) rfl (by decide +kernel) rfl dX8_log_117 ?_
          refine lv_iconst (v := 1) hx hb dX8_log_120 (by decide) ?_
          refine lv_iadd hx hb dX8_log_121 ?_
          refine x_cvi (y := nI 16) (by rfl) ?_
          refine xp X hw (C := RX8) (ty := .int) (T := TX8) (N := 27) (by decide +kernel) tyX8 tyX8_ok nmX8 0 rfl rfl 6 (by decide) rfl (by decide +kernel) rfl (by decide +kernel) rfl rfl (Nat.le_of_ble_eq_true rfl) dX8_log_122 (ws' := [(mo, .inr (5, [.ref th, .ref ea, .ref sa, .ref lk, .ref lq, .ref lz, .int (nI 16), .int un, .int tm, .ref rb, .ref rn, .ref rt, .ref rk, .int kr, .ref cb, .ref cm, .ref cu, .ref ck, .int kc, .int se, .int tr, .ref mk, .ref nt, .ref kp, .ref iq, .int ka, .int wr])), (lk, .inl (G.2.1, 16, .inl (upd (shF f1 k) 15 y))), (lq, .inl (G.2.1, 16, .inl (upd (shF f2 k) 15 x))), (lz, .inl (G.2.1, 16, .inl (upd (shF f3 k) 15 v)))]) rfl (fun H locs hw => ?_)
          refine hret _ _ _ _ _ dX8_log_125 hw ?_
          obtain rfl : k = 15 := by omega
          subst h16
          exact ⟨rfl, by rw [lgA_1, lgA_1, lgA_1]; rfl⟩
        · have hk2 : k < 15 := i_nle (a := 15) (by decide) (by omega) c28
          refine lv_aload_n hx hb dX8_log_31 rfl (lv_at hl 0 rfl) ?_
          refine xg X hw (C := RX8) (T := TX8) (N := 27) (by decide +kernel) 0 rfl rfl 3 (by decide) rfl (by decide +kernel) rfl dX8_log_32 ?_
          refine lv_iload hx hb dX8_log_35 (lv_at hl 4 rfl) ?_
          refine lv_aload_n hx hb dX8_log_37 rfl (lv_at hl 0 rfl) ?_
          refine xg X hw (C := RX8) (T := TX8) (N := 27) (by decide +kernel) 0 rfl rfl 3 (by decide) rfl (by decide +kernel) rfl dX8_log_38 ?_
          refine lv_iload hx hb dX8_log_41 (lv_at hl 4 rfl) ?_
          refine lv_iconst (v := 1) hx hb dX8_log_43 (by decide) ?_
          refine lv_iadd hx hb dX8_log_44 ?_
          refine x_cvi (y := nI (k + 1)) (by exact nI_1 _) ?_
          refine xia X hw 1 rfl (j := (k + 1)) (rfl) (by omega) (by decide) dX8_log_45 ?_
          refine xis X hw 1 rfl (j := k) (rfl) (by omega) (by decide) dX8_log_46 (ws' := [(mo, .inr (5, [.ref th, .ref ea, .ref sa, .ref lk, .ref lq, .ref lz, .int (nI 15), .int un, .int tm, .ref rb, .ref rn, .ref rt, .ref rk, .int kr, .ref cb, .ref cm, .ref cu, .ref ck, .int kc, .int se, .int tr, .ref mk, .ref nt, .ref kp, .ref iq, .int ka, .int wr])), (lk, .inl (G.2.1, 16, .inl (upd (shF f1 k) k ((shF f1 k) (k + 1))))), (lq, .inl (G.2.1, 16, .inl (shF f2 k))), (lz, .inl (G.2.1, 16, .inl (shF f3 k)))]) rfl (fun H locs hw => ?_)
          refine lv_aload_n hx hb dX8_log_47 rfl (lv_at hl 0 rfl) ?_
          refine xg X hw (C := RX8) (T := TX8) (N := 27) (by decide +kernel) 0 rfl rfl 4 (by decide) rfl (by decide +kernel) rfl dX8_log_48 ?_
          refine lv_iload hx hb dX8_log_51 (lv_at hl 4 rfl) ?_
          refine lv_aload_n hx hb dX8_log_53 rfl (lv_at hl 0 rfl) ?_
          refine xg X hw (C := RX8) (T := TX8) (N := 27) (by decide +kernel) 0 rfl rfl 4 (by decide) rfl (by decide +kernel) rfl dX8_log_54 ?_
          refine lv_iload hx hb dX8_log_57 (lv_at hl 4 rfl) ?_
          refine lv_iconst (v := 1) hx hb dX8_log_59 (by decide) ?_
          refine lv_iadd hx hb dX8_log_60 ?_
          refine x_cvi (y := nI (k + 1)) (by exact nI_1 _) ?_
          refine xia X hw 2 rfl (j := (k + 1)) (rfl) (by omega) (by decide) dX8_log_61 ?_
          refine xis X hw 2 rfl (j := k) (rfl) (by omega) (by decide) dX8_log_62 (ws' := [(mo, .inr (5, [.ref th, .ref ea, .ref sa, .ref lk, .ref lq, .ref lz, .int (nI 15), .int un, .int tm, .ref rb, .ref rn, .ref rt, .ref rk, .int kr, .ref cb, .ref cm, .ref cu, .ref ck, .int kc, .int se, .int tr, .ref mk, .ref nt, .ref kp, .ref iq, .int ka, .int wr])), (lk, .inl (G.2.1, 16, .inl (upd (shF f1 k) k ((shF f1 k) (k + 1))))), (lq, .inl (G.2.1, 16, .inl (upd (shF f2 k) k ((shF f2 k) (k + 1))))), (lz, .inl (G.2.1, 16, .inl (shF f3 k)))]) rfl (fun H locs hw => ?_)
          refine lv_aload_n hx hb dX8_log_63 rfl (lv_at hl 0 rfl) ?_
          refine xg X hw (C := RX8) (T := TX8) (N := 27) (by decide +kernel) 0 rfl rfl 5 (by decide) rfl (by decide +kernel) rfl dX8_log_64 ?_
          refine lv_iload hx hb dX8_log_67 (lv_at hl 4 rfl) ?_
          refine lv_aload_n hx hb dX8_log_69 rfl (lv_at hl 0 rfl) ?_
          refine xg X hw (C := RX8) (T := TX8) (N := 27) (by decide +kernel) 0 rfl rfl 5 (by decide) rfl (by decide +kernel) rfl dX8_log_70 ?_
          refine lv_iload hx hb dX8_log_73 (lv_at hl 4 rfl) ?_
          refine lv_iconst (v := 1) hx hb dX8_log_75 (by decide) ?_
          refine lv_iadd hx hb dX8_log_76 ?_
          refine x_cvi (y := nI (k + 1)) (by exact nI_1 _) ?_
          refine xia X hw 3 rfl (j := (k + 1)) (rfl) (by omega) (by decide) dX8_log_77 ?_
          refine xis X hw 3 rfl (j := k) (rfl) (by omega) (by decide) dX8_log_78 (ws' := [(mo, .inr (5, [.ref th, .ref ea, .ref sa, .ref lk, .ref lq, .ref lz, .int (nI 15), .int un, .int tm, .ref rb, .ref rn, .ref rt, .ref rk, .int kr, .ref cb, .ref cm, .ref cu, .ref ck, .int kc, .int se, .int tr, .ref mk, .ref nt, .ref kp, .ref iq, .int ka, .int wr])), (lk, .inl (G.2.1, 16, .inl (upd (shF f1 k) k ((shF f1 k) (k + 1))))), (lq, .inl (G.2.1, 16, .inl (upd (shF f2 k) k ((shF f2 k) (k + 1))))), (lz, .inl (G.2.1, 16, .inl (upd (shF f3 k) k ((shF f3 k) (k + 1)))))]) rfl (fun H locs hw => ?_)
          refine lv_iinc (v := nI (k + 1)) (lv' := [(4, .int (nI (k + 1))), (0, .ref mo), (1, .int y), (2, .int x), (3, .int v)]) hx hb dX8_log_79 hl (k := 4) rfl (by exact nI_1 _) (by decide) rfl (fun ls hl => ?_)
          refine lv_goto (tgt := 22) hx hb dX8_log_82 (by decide) ?_
          rw [shF_up, shF_up, shF_up] at hw
          exact ih22 (k + 1) _ _ _ (by omega) (by omega) hw (lv_sub hl [1, 2, 3, 4, 0] rfl)
    have hw : WS G A s.heap H locs [(mo, .inr (5, [.ref th, .ref ea, .ref sa, .ref lk, .ref lq, .ref lz, .int (nI 15), .int un, .int tm, .ref rb, .ref rn, .ref rt, .ref rk, .int kr, .ref cb, .ref cm, .ref cu, .ref ck, .int kc, .int se, .int tr, .ref mk, .ref nt, .ref kp, .ref iq, .int ka, .int wr])), (lk, .inl (G.2.1, 16, .inl (shF f1 0))), (lq, .inl (G.2.1, 16, .inl (shF f2 0))), (lz, .inl (G.2.1, 16, .inl (shF f3 0)))] := hw
    exact lp22 _ 0 _ _ _ (Nat.lt_succ_self _) (by decide) hw (lv_sub hl [1, 2, 3, 4, 0] rfl)

set_option maxHeartbeats 4000000 in
set_option maxRecDepth 100000 in
theorem c_X8_put (l : Launch) (G : GG) (mo : Nat) (th : Nat) (ea : Nat) (sa : Nat) (lk : Nat) (lq : Nat) (lz : Nat) (rb : Nat) (rn : Nat) (rt : Nat) (rk : Nat) (cb : Nat) (cm : Nat) (cu : Nat) (ck : Nat) (mk : Nat) (nt : Nat) (kp : Nat) (iq : Nat) (un : Int32) (tm : Int32) (kr : Int32) (kc : Int32) (se : Int32) (tr : Int32) (ka : Int32) (wr : Int32) (cn : Nat) (m : Nat) (em : Nat → Int32) (f1 : Nat → Int32) (f2 : Nat → Int32) (f3 : Nat → Int32) (x : Int32) (hm : m < 2 ^ 61) (hc : cn ≤ 16) (hp : pcN 64 m ≤ 12) : CT l G yX8_put wsX8_put ({ frames := 2, cells := 0, slots := 0, locals := 46 } : Room) [.ref mo, .int x] [(mo, .inr (5, [.ref th, .ref ea, .ref sa, .ref lk, .ref lq, .ref lz, .int (nI cn), .int un, .int tm, .ref rb, .ref rn, .ref rt, .ref rk, .int kr, .ref cb, .ref cm, .ref cu, .ref ck, .int kc, .int se, .int tr, .ref mk, .ref nt, .ref kp, .ref iq, .int ka, .int wr])), (th, .inl (G.2.1, 61, .inl (tB m))), (ea, .inl (G.2.1, 61, .inl em)), (lk, .inl (G.2.1, 16, .inl f1)), (lq, .inl (G.2.1, 16, .inl f2)), (lz, .inl (G.2.1, 16, .inl f3))] (fun r w => r = some (.int (putR m x)) ∧ ((putOk m x = false ∧ w = [(mo, .inr (5, [.ref th, .ref ea, .ref sa, .ref lk, .ref lq, .ref lz, .int (nI cn), .int un, .int tm, .ref rb, .ref rn, .ref rt, .ref rk, .int kr, .ref cb, .ref cm, .ref cu, .ref ck, .int kc, .int se, .int tr, .ref mk, .ref nt, .ref kp, .ref iq, .int ka, .int wr])), (th, .inl (G.2.1, 61, .inl (tB m))), (ea, .inl (G.2.1, 61, .inl em)), (lk, .inl (G.2.1, 16, .inl f1)), (lq, .inl (G.2.1, 16, .inl f2)), (lz, .inl (G.2.1, 16, .inl f3))]) ∨ (putOk m x = true ∧ w = [(mo, .inr (5, [.ref th, .ref ea, .ref sa, .ref lk, .ref lq, .ref lz, .int (nI (lgc cn)), .int un, .int tm, .ref rb, .ref rn, .ref rt, .ref rk, .int kr, .ref cb, .ref cm, .ref cu, .ref ck, .int kc, .int se, .int tr, .ref mk, .ref nt, .ref kp, .ref iq, .int ka, .int wr])), (th, .inl (G.2.1, 61, .inl (tB (bcm m x.toNatClampNeg 0)))), (ea, .inl (G.2.1, 61, .inl (upd em x.toNatClampNeg 0))), (lk, .inl (G.2.1, 16, .inl (lgA cn f1 0))), (lq, .inl (G.2.1, 16, .inl (lgA cn f2 (nI x.toNatClampNeg)))), (lz, .inl (G.2.1, 16, .inl (lgA cn f3 0)))]))) 0 0 := by
  refine ct_i (cc := cX8_put) (maxL := 2) (by decide +kernel) rfl (Nat.le_of_ble_eq_true rfl) ?_
  intro p e s mt below meth c A Q X hw hret ls hl
  obtain ⟨hx, hb, -⟩ := id X
  have hl : lv_has ls 2 [(0, .ref mo), (1, .int x)] := hl
  refine lv_iload_n hx hb dX8_put_0 rfl (lv_at hl 1 rfl) ?_
  refine lv_i2l (v := x.toInt64) hx hb dX8_put_1 (by rfl) ?_
  refine lv_lconst (v := 0) hx hb dX8_put_2 (by decide) ?_
  refine xc2 X (v := 60) (by decide +kernel) dX8_put_3 ?_
  refine xcP (n := 3) (As := [.long x.toInt64, .long 0, .long 60]) (rest := []) X hw (c_X8_in l G x.toInt64 0 60 ) gX8_put_X8_in rfl ⟨rfl, rfl⟩ (by decide +kernel) ⟨by decide, by decide⟩ rfl hl.1 rfl (Nat.le_of_ble_eq_true rfl) dX8_put_6 ⟨by decide, by decide⟩ (fun r w1 H locs hp hw => ?_)
  obtain rfl := hp
  refine W.eq (g2 := F0 mt 9 ls [.int (bi (inJ x.toInt64 0 60))]) rfl ?_
  refine x_cvi (y := bi (inS x)) (by rw [inJ_S]) ?_
  refine lv_if_ne (tgt := 15) hx hb dX8_put_9 (by decide) (fun c9 => ?_) (fun c9 => ?_)
  · have hi := bi_t c9
    obtain ⟨k, hk, rfl⟩ := inS_of hi
    have hck := cl_k hk
    refine lv_aload_n hx hb dX8_put_15 rfl (lv_at hl 0 rfl) ?_
    refine lv_iload_n hx hb dX8_put_16 rfl (lv_at hl 1 rfl) ?_
    refine xcV (n := 1) (As := [.int (nI k)]) (rest := []) (wc := [(mo, .inr (5, [.ref th, .ref ea, .ref sa, .ref lk, .ref lq, .ref lz, .int (nI cn), .int un, .int tm, .ref rb, .ref rn, .ref rt, .ref rk, .int kr, .ref cb, .ref cm, .ref cu, .ref ck, .int kc, .int se, .int tr, .ref mk, .ref nt, .ref kp, .ref iq, .int ka, .int wr])), (th, .inl (G.2.1, 61, .inl (tB m)))]) (wr := [(ea, .inl (G.2.1, 61, .inl em)), (lk, .inl (G.2.1, 16, .inl f1)), (lq, .inl (G.2.1, 16, .inl f2)), (lz, .inl (G.2.1, 16, .inl f3))]) X hw (c_X8_isDish l G mo th ea sa lk lq lz rb rn rt rk cb cm cu ck mk nt kp iq (nI cn) un tm kr kc se tr ka wr m (nI k) ) (C := RX8) gX8_put_X8_isDish (q0 := 0) rfl rfl rfl ⟨rfl, rfl⟩ (by decide +kernel) ⟨by decide, by decide⟩ rfl hl.1 rfl (Nat.le_of_ble_eq_true rfl) dX8_put_17 ⟨by decide, by decide⟩ [0, 1] [2, 3, 4, 5] rfl rfl rfl rfl (by decide) (fun r w1 H locs hp hw => ?_)
    obtain ⟨rfl, rfl⟩ := hp
    have hw := hw.sub (ws' := [(mo, .inr (5, [.ref th, .ref ea, .ref sa, .ref lk, .ref lq, .ref lz, .int (nI cn), .int un, .int tm, .ref rb, .ref rn, .ref rt, .ref rk, .int kr, .ref cb, .ref cm, .ref cu, .ref ck, .int kc, .int se, .int tr, .ref mk, .ref nt, .ref kp, .ref iq, .int ka, .int wr])), (th, .inl (G.2.1, 61, .inl (tB m))), (ea, .inl (G.2.1, 61, .inl em)), (lk, .inl (G.2.1, 16, .inl f1)), (lq, .inl (G.2.1, 16, .inl f2)), (lz, .inl (G.2.1, 16, .inl f3))]) [4, 5, 0, 1, 2, 3] rfl rfl
    refine W.eq (g2 := F0 mt 20 ls [.int (bi (stn m (nI k)))]) rfl ?_
    refine lv_if_eq (tgt := 26) hx hb dX8_put_20 (by decide) (fun c20 => ?_) (fun c20 => ?_)
    · have hs := bi_f c20
      refine lv_aload_n hx hb dX8_put_26 rfl (lv_at hl 0 rfl) ?_
      refine xcV (n := 0) (As := []) (rest := []) (wc := [(mo, .inr (5, [.ref th, .ref ea, .ref sa, .ref lk, .ref lq, .ref lz, .int (nI cn), .int un, .int tm, .ref rb, .ref rn, .ref rt, .ref rk, .int kr, .ref cb, .ref cm, .ref cu, .ref ck, .int kc, .int se, .int tr, .ref mk, .ref nt, .ref kp, .ref iq, .int ka, .int wr])), (th, .inl (G.2.1, 61, .inl (tB m)))]) (wr := [(ea, .inl (G.2.1, 61, .inl em)), (lk, .inl (G.2.1, 16, .inl f1)), (lq, .inl (G.2.1, 16, .inl f2)), (lz, .inl (G.2.1, 16, .inl f3))]) X hw (c_X8_dishes l G mo th ea sa lk lq lz rb rn rt rk cb cm cu ck mk nt kp iq (nI cn) un tm kr kc se tr ka wr m hm) (C := RX8) gX8_put_X8_dishes (q0 := 0) rfl rfl rfl ⟨rfl, rfl⟩ (by decide +kernel) ⟨by decide, by decide⟩ rfl hl.1 rfl (Nat.le_of_ble_eq_true rfl) dX8_put_27 ⟨by decide, by decide⟩ [0, 1] [2, 3, 4, 5] rfl rfl rfl rfl (by decide) (fun r w1 H locs hp hw => ?_)
      obtain ⟨rfl, rfl⟩ := hp
      have hw := hw.sub (ws' := [(mo, .inr (5, [.ref th, .ref ea, .ref sa, .ref lk, .ref lq, .ref lz, .int (nI cn), .int un, .int tm, .ref rb, .ref rn, .ref rt, .ref rk, .int kr, .ref cb, .ref cm, .ref cu, .ref ck, .int kc, .int se, .int tr, .ref mk, .ref nt, .ref kp, .ref iq, .int ka, .int wr])), (th, .inl (G.2.1, 61, .inl (tB m))), (ea, .inl (G.2.1, 61, .inl em)), (lk, .inl (G.2.1, 16, .inl f1)), (lq, .inl (G.2.1, 16, .inl f2)), (lz, .inl (G.2.1, 16, .inl f3))]) [4, 5, 0, 1, 2, 3] rfl rfl
      refine W.eq (g2 := F0 mt 30 ls [.int (nI (pcN 64 m))]) rfl ?_
      refine lv_bipush (v := 12) hx hb dX8_put_30 (by decide) ?_
      refine lv_icmp_ne (tgt := 38) hx hb dX8_put_32 (by decide) (fun c32 => ?_) (fun c32 => ?_)
      · have hp2 : pcN 64 m < 12 := by have := i_ne (b := 12) c32; omega
        refine lv_aload_n hx hb dX8_put_38 rfl (lv_at hl 0 rfl) ?_
        refine xg X hw (C := RX8) (T := TX8) (N := 27) (by decide +kernel) 0 rfl rfl 0 (by decide) rfl (by decide +kernel) rfl dX8_put_39 ?_
        refine lv_iload_n hx hb dX8_put_42 rfl (lv_at hl 1 rfl) ?_
        refine lv_iconst (v := 1) hx hb dX8_put_43 (by decide) ?_
        refine xis X hw 1 rfl (j := k) (rfl) (by omega) (by decide) dX8_put_44 (ws' := [(mo, .inr (5, [.ref th, .ref ea, .ref sa, .ref lk, .ref lq, .ref lz, .int (nI cn), .int un, .int tm, .ref rb, .ref rn, .ref rt, .ref rk, .int kr, .ref cb, .ref cm, .ref cu, .ref ck, .int kc, .int se, .int tr, .ref mk, .ref nt, .ref kp, .ref iq, .int ka, .int wr])), (th, .inl (G.2.1, 61, .inl (upd (tB m) k 1))), (ea, .inl (G.2.1, 61, .inl em)), (lk, .inl (G.2.1, 16, .inl f1)), (lq, .inl (G.2.1, 16, .inl f2)), (lz, .inl (G.2.1, 16, .inl f3))]) rfl (fun H locs hw => ?_)
        rw [tB_up m k 0 1 (by decide)] at hw
        refine lv_aload_n hx hb dX8_put_45 rfl (lv_at hl 0 rfl) ?_
        refine xg X hw (C := RX8) (T := TX8) (N := 27) (by decide +kernel) 0 rfl rfl 1 (by decide) rfl (by decide +kernel) rfl dX8_put_46 ?_
        refine lv_iload_n hx hb dX8_put_49 rfl (lv_at hl 1 rfl) ?_
        refine lv_iconst (v := 0) hx hb dX8_put_50 (by decide) ?_
        refine xis X hw 2 rfl (j := k) (rfl) (by omega) (by decide) dX8_put_51 (ws' := [(mo, .inr (5, [.ref th, .ref ea, .ref sa, .ref lk, .ref lq, .ref lz, .int (nI cn), .int un, .int tm, .ref rb, .ref rn, .ref rt, .ref rk, .int kr, .ref cb, .ref cm, .ref cu, .ref ck, .int kc, .int se, .int tr, .ref mk, .ref nt, .ref kp, .ref iq, .int ka, .int wr])), (th, .inl (G.2.1, 61, .inl (tB (bcm m k 0)))), (ea, .inl (G.2.1, 61, .inl (upd em k 0))), (lk, .inl (G.2.1, 16, .inl f1)), (lq, .inl (G.2.1, 16, .inl f2)), (lz, .inl (G.2.1, 16, .inl f3))]) rfl (fun H locs hw => ?_)
        refine lv_aload_n hx hb dX8_put_52 rfl (lv_at hl 0 rfl) ?_
        refine lv_iconst (v := 0) hx hb dX8_put_53 (by decide) ?_
        refine lv_iload_n hx hb dX8_put_54 rfl (lv_at hl 1 rfl) ?_
        refine lv_iconst (v := 0) hx hb dX8_put_55 (by decide) ?_
        refine xcV (n := 3) (As := [.int 0, .int (nI k), .int 0]) (rest := []) (wc := [(mo, .inr (5, [.ref th, .ref ea, .ref sa, .ref lk, .ref lq, .ref lz, .int (nI cn), .int un, .int tm, .ref rb, .ref rn, .ref rt, .ref rk, .int kr, .ref cb, .ref cm, .ref cu, .ref ck, .int kc, .int se, .int tr, .ref mk, .ref nt, .ref kp, .ref iq, .int ka, .int wr])), (lk, .inl (G.2.1, 16, .inl f1)), (lq, .inl (G.2.1, 16, .inl f2)), (lz, .inl (G.2.1, 16, .inl f3))]) (wr := [(th, .inl (G.2.1, 61, .inl (tB (bcm m k 0)))), (ea, .inl (G.2.1, 61, .inl (upd em k 0)))]) X hw (c_X8_log l G mo th ea sa lk lq lz rb rn rt rk cb cm cu ck mk nt kp iq un tm kr kc se tr ka wr cn f1 f2 f3 0 (nI k) 0 hc) (C := RX8) gX8_put_X8_log (q0 := 0) rfl rfl rfl ⟨rfl, rfl⟩ (by decide +kernel) ⟨by decide, by decide⟩ rfl hl.1 rfl (Nat.le_of_ble_eq_true rfl) dX8_put_56 ⟨by decide, by decide⟩ [0, 3, 4, 5] [1, 2] rfl rfl rfl rfl (by decide) (fun r w1 H locs hp hw => ?_)
        obtain ⟨rfl, rfl⟩ := hp
        have hw := hw.sub (ws' := [(mo, .inr (5, [.ref th, .ref ea, .ref sa, .ref lk, .ref lq, .ref lz, .int (nI (lgc cn)), .int un, .int tm, .ref rb, .ref rn, .ref rt, .ref rk, .int kr, .ref cb, .ref cm, .ref cu, .ref ck, .int kc, .int se, .int tr, .ref mk, .ref nt, .ref kp, .ref iq, .int ka, .int wr])), (th, .inl (G.2.1, 61, .inl (tB (bcm m k 0)))), (ea, .inl (G.2.1, 61, .inl (upd em k 0))), (lk, .inl (G.2.1, 16, .inl (lgA cn f1 0))), (lq, .inl (G.2.1, 16, .inl (lgA cn f2 (nI k)))), (lz, .inl (G.2.1, 16, .inl (lgA cn f3 0)))]) [2, 0, 1, 3, 4, 5] rfl rfl
        refine W.eq (g2 := F0 mt 59 ls []) rfl ?_
        refine lv_aload_n hx hb dX8_put_59 rfl (lv_at hl 0 rfl) ?_
        refine xcV (n := 0) (As := []) (rest := []) (wc := [(mo, .inr (5, [.ref th, .ref ea, .ref sa, .ref lk, .ref lq, .ref lz, .int (nI (lgc cn)), .int un, .int tm, .ref rb, .ref rn, .ref rt, .ref rk, .int kr, .ref cb, .ref cm, .ref cu, .ref ck, .int kc, .int se, .int tr, .ref mk, .ref nt, .ref kp, .ref iq, .int ka, .int wr])), (th, .inl (G.2.1, 61, .inl (tB (bcm m k 0))))]) (wr := [(ea, .inl (G.2.1, 61, .inl (upd em k 0))), (lk, .inl (G.2.1, 16, .inl (lgA cn f1 0))), (lq, .inl (G.2.1, 16, .inl (lgA cn f2 (nI k)))), (lz, .inl (G.2.1, 16, .inl (lgA cn f3 0)))]) X hw (c_X8_dishes l G mo th ea sa lk lq lz rb rn rt rk cb cm cu ck mk nt kp iq (nI (lgc cn)) un tm kr kc se tr ka wr (bcm m k 0) (bcm_lt hm hk)) (C := RX8) gX8_put_X8_dishes (q0 := 0) rfl rfl rfl ⟨rfl, rfl⟩ (by decide +kernel) ⟨by decide, by decide⟩ rfl hl.1 rfl (Nat.le_of_ble_eq_true rfl) dX8_put_60 ⟨by decide, by decide⟩ [0, 1] [2, 3, 4, 5] rfl rfl rfl rfl (by decide) (fun r w1 H locs hp hw => ?_)
        obtain ⟨rfl, rfl⟩ := hp
        have hw := hw.sub (ws' := [(mo, .inr (5, [.ref th, .ref ea, .ref sa, .ref lk, .ref lq, .ref lz, .int (nI (lgc cn)), .int un, .int tm, .ref rb, .ref rn, .ref rt, .ref rk, .int kr, .ref cb, .ref cm, .ref cu, .ref ck, .int kc, .int se, .int tr, .ref mk, .ref nt, .ref kp, .ref iq, .int ka, .int wr])), (th, .inl (G.2.1, 61, .inl (tB (bcm m k 0)))), (ea, .inl (G.2.1, 61, .inl (upd em k 0))), (lk, .inl (G.2.1, 16, .inl (lgA cn f1 0))), (lq, .inl (G.2.1, 16, .inl (lgA cn f2 (nI k)))), (lz, .inl (G.2.1, 16, .inl (lgA cn f3 0)))]) [4, 5, 0, 1, 2, 3] rfl rfl
        refine W.eq (g2 := F0 mt 63 ls [.int (nI (pcN 64 (bcm m k 0)))]) rfl ?_
        refine hret _ _ _ _ _ _ dX8_put_63 hw ?_
        refine ⟨congrArg (fun z => some (Value.int z)) (by simp [putR, hi, hs, hp2, hck]), Or.inr ⟨by simp [putOk, hi, hs, hp2], ?_⟩⟩
        rw [hck]
      · have hp2 : ¬ pcN 64 m < 12 := by have := i_eq (b := 12) (by omega) (by decide) c32; omega
        refine lv_bipush (v := (-4)) hx hb dX8_put_35 (by decide) ?_
        refine hret _ _ _ _ _ _ dX8_put_37 hw ?_
        exact ⟨congrArg (fun z => some (Value.int z)) (by simp [putR, hi, hs, hp2]), Or.inl ⟨by simp [putOk, hi, hs, hp2], rfl⟩⟩
    · have hs := bi_t c20
      refine lv_bipush (v := (-5)) hx hb dX8_put_23 (by decide) ?_
      refine hret _ _ _ _ _ _ dX8_put_25 hw ?_
      exact ⟨congrArg (fun z => some (Value.int z)) (by simp [putR, hi, hs]), Or.inl ⟨by simp [putOk, hi, hs], rfl⟩⟩
  · have hi := bi_f c9
    refine lv_bipush (v := (-2)) hx hb dX8_put_12 (by decide) ?_
    refine hret _ _ _ _ _ _ dX8_put_14 hw ?_
    exact ⟨congrArg (fun z => some (Value.int z)) (by simp [putR, hi]), Or.inl ⟨by simp [putOk, hi], rfl⟩⟩

set_option maxHeartbeats 4000000 in
set_option maxRecDepth 100000 in
theorem c_X8_lift (l : Launch) (G : GG) (mo : Nat) (th : Nat) (ea : Nat) (sa : Nat) (lk : Nat) (lq : Nat) (lz : Nat) (rb : Nat) (rn : Nat) (rt : Nat) (rk : Nat) (cb : Nat) (cm : Nat) (cu : Nat) (ck : Nat) (mk : Nat) (nt : Nat) (kp : Nat) (iq : Nat) (un : Int32) (tm : Int32) (kr : Int32) (kc : Int32) (se : Int32) (tr : Int32) (ka : Int32) (wr : Int32) (cn : Nat) (m : Nat) (em : Nat → Int32) (f1 : Nat → Int32) (f2 : Nat → Int32) (f3 : Nat → Int32) (x : Int32) (hm : m < 2 ^ 61) (hc : cn ≤ 16) : CT l G yX8_lift wsX8_lift ({ frames := 2, cells := 0, slots := 0, locals := 46 } : Room) [.ref mo, .int x] [(mo, .inr (5, [.ref th, .ref ea, .ref sa, .ref lk, .ref lq, .ref lz, .int (nI cn), .int un, .int tm, .ref rb, .ref rn, .ref rt, .ref rk, .int kr, .ref cb, .ref cm, .ref cu, .ref ck, .int kc, .int se, .int tr, .ref mk, .ref nt, .ref kp, .ref iq, .int ka, .int wr])), (th, .inl (G.2.1, 61, .inl (tB m))), (ea, .inl (G.2.1, 61, .inl em)), (lk, .inl (G.2.1, 16, .inl f1)), (lq, .inl (G.2.1, 16, .inl f2)), (lz, .inl (G.2.1, 16, .inl f3))] (fun r w => r = some (.int (liftR m x)) ∧ ((stn m x = false ∧ w = [(mo, .inr (5, [.ref th, .ref ea, .ref sa, .ref lk, .ref lq, .ref lz, .int (nI cn), .int un, .int tm, .ref rb, .ref rn, .ref rt, .ref rk, .int kr, .ref cb, .ref cm, .ref cu, .ref ck, .int kc, .int se, .int tr, .ref mk, .ref nt, .ref kp, .ref iq, .int ka, .int wr])), (th, .inl (G.2.1, 61, .inl (tB m))), (ea, .inl (G.2.1, 61, .inl em)), (lk, .inl (G.2.1, 16, .inl f1)), (lq, .inl (G.2.1, 16, .inl f2)), (lz, .inl (G.2.1, 16, .inl f3))]) ∨ (stn m x = true ∧ w = [(mo, .inr (5, [.ref th, .ref ea, .ref sa, .ref lk, .ref lq, .ref lz, .int (nI (lgc cn)), .int un, .int tm, .ref rb, .ref rn, .ref rt, .ref rk, .int kr, .ref cb, .ref cm, .ref cu, .ref ck, .int kc, .int se, .int tr, .ref mk, .ref nt, .ref kp, .ref iq, .int ka, .int wr])), (th, .inl (G.2.1, 61, .inl (tB (bcm m x.toNatClampNeg (-6))))), (ea, .inl (G.2.1, 61, .inl em)), (lk, .inl (G.2.1, 16, .inl (lgA cn f1 1))), (lq, .inl (G.2.1, 16, .inl (lgA cn f2 (nI x.toNatClampNeg)))), (lz, .inl (G.2.1, 16, .inl (lgA cn f3 (em x.toNatClampNeg))))]))) 0 0 := by
  refine ct_i (cc := cX8_lift) (maxL := 2) (by decide +kernel) rfl (Nat.le_of_ble_eq_true rfl) ?_
  intro p e s mt below meth c A Q X hw hret ls hl
  obtain ⟨hx, hb, -⟩ := id X
  have hl : lv_has ls 2 [(0, .ref mo), (1, .int x)] := hl
  refine lv_aload_n hx hb dX8_lift_0 rfl (lv_at hl 0 rfl) ?_
  refine lv_iload_n hx hb dX8_lift_1 rfl (lv_at hl 1 rfl) ?_
  refine xcV (n := 1) (As := [.int x]) (rest := []) (wc := [(mo, .inr (5, [.ref th, .ref ea, .ref sa, .ref lk, .ref lq, .ref lz, .int (nI cn), .int un, .int tm, .ref rb, .ref rn, .ref rt, .ref rk, .int kr, .ref cb, .ref cm, .ref cu, .ref ck, .int kc, .int se, .int tr, .ref mk, .ref nt, .ref kp, .ref iq, .int ka, .int wr])), (th, .inl (G.2.1, 61, .inl (tB m)))]) (wr := [(ea, .inl (G.2.1, 61, .inl em)), (lk, .inl (G.2.1, 16, .inl f1)), (lq, .inl (G.2.1, 16, .inl f2)), (lz, .inl (G.2.1, 16, .inl f3))]) X hw (c_X8_isDish l G mo th ea sa lk lq lz rb rn rt rk cb cm cu ck mk nt kp iq (nI cn) un tm kr kc se tr ka wr m x ) (C := RX8) gX8_lift_X8_isDish (q0 := 0) rfl rfl rfl ⟨rfl, rfl⟩ (by decide +kernel) ⟨by decide, by decide⟩ rfl hl.1 rfl (Nat.le_of_ble_eq_true rfl) dX8_lift_2 ⟨by decide, by decide⟩ [0, 1] [2, 3, 4, 5] rfl rfl rfl rfl (by decide) (fun r w1 H locs hp hw => ?_)
  obtain ⟨rfl, rfl⟩ := hp
  have hw := hw.sub (ws' := [(mo, .inr (5, [.ref th, .ref ea, .ref sa, .ref lk, .ref lq, .ref lz, .int (nI cn), .int un, .int tm, .ref rb, .ref rn, .ref rt, .ref rk, .int kr, .ref cb, .ref cm, .ref cu, .ref ck, .int kc, .int se, .int tr, .ref mk, .ref nt, .ref kp, .ref iq, .int ka, .int wr])), (th, .inl (G.2.1, 61, .inl (tB m))), (ea, .inl (G.2.1, 61, .inl em)), (lk, .inl (G.2.1, 16, .inl f1)), (lq, .inl (G.2.1, 16, .inl f2)), (lz, .inl (G.2.1, 16, .inl f3))]) [4, 5, 0, 1, 2, 3] rfl rfl
  refine W.eq (g2 := F0 mt 5 ls [.int (bi (stn m x))]) rfl ?_
  refine lv_if_ne (tgt := 10) hx hb dX8_lift_5 (by decide) (fun c5 => ?_) (fun c5 => ?_)
  · have hs := bi_t c5
    obtain ⟨k, hk, rfl, hbk⟩ := stn_in hs
    have hck := cl_k hk
    refine lv_aload_n hx hb dX8_lift_10 rfl (lv_at hl 0 rfl) ?_
    refine xg X hw (C := RX8) (T := TX8) (N := 27) (by decide +kernel) 0 rfl rfl 0 (by decide) rfl (by decide +kernel) rfl dX8_lift_11 ?_
    refine lv_iload_n hx hb dX8_lift_14 rfl (lv_at hl 1 rfl) ?_
    refine lv_iconst (v := 0) hx hb dX8_lift_15 (by decide) ?_
    refine xis X hw 1 rfl (j := k) (rfl) (by omega) (by decide) dX8_lift_16 (ws' := [(mo, .inr (5, [.ref th, .ref ea, .ref sa, .ref lk, .ref lq, .ref lz, .int (nI cn), .int un, .int tm, .ref rb, .ref rn, .ref rt, .ref rk, .int kr, .ref cb, .ref cm, .ref cu, .ref ck, .int kc, .int se, .int tr, .ref mk, .ref nt, .ref kp, .ref iq, .int ka, .int wr])), (th, .inl (G.2.1, 61, .inl (upd (tB m) k 0))), (ea, .inl (G.2.1, 61, .inl em)), (lk, .inl (G.2.1, 16, .inl f1)), (lq, .inl (G.2.1, 16, .inl f2)), (lz, .inl (G.2.1, 16, .inl f3))]) rfl (fun H locs hw => ?_)
    rw [tB_up m k (-6) 0 (by decide)] at hw
    refine lv_aload_n hx hb dX8_lift_17 rfl (lv_at hl 0 rfl) ?_
    refine lv_iconst (v := 1) hx hb dX8_lift_18 (by decide) ?_
    refine lv_iload_n hx hb dX8_lift_19 rfl (lv_at hl 1 rfl) ?_
    refine lv_aload_n hx hb dX8_lift_20 rfl (lv_at hl 0 rfl) ?_
    refine xg X hw (C := RX8) (T := TX8) (N := 27) (by decide +kernel) 0 rfl rfl 1 (by decide) rfl (by decide +kernel) rfl dX8_lift_21 ?_
    refine lv_iload_n hx hb dX8_lift_24 rfl (lv_at hl 1 rfl) ?_
    refine xia X hw 2 rfl (j := k) (rfl) (by omega) (by decide) dX8_lift_25 ?_
    refine xcV (n := 3) (As := [.int 1, .int (nI k), .int (em k)]) (rest := []) (wc := [(mo, .inr (5, [.ref th, .ref ea, .ref sa, .ref lk, .ref lq, .ref lz, .int (nI cn), .int un, .int tm, .ref rb, .ref rn, .ref rt, .ref rk, .int kr, .ref cb, .ref cm, .ref cu, .ref ck, .int kc, .int se, .int tr, .ref mk, .ref nt, .ref kp, .ref iq, .int ka, .int wr])), (lk, .inl (G.2.1, 16, .inl f1)), (lq, .inl (G.2.1, 16, .inl f2)), (lz, .inl (G.2.1, 16, .inl f3))]) (wr := [(th, .inl (G.2.1, 61, .inl (tB (bcm m k (-6))))), (ea, .inl (G.2.1, 61, .inl em))]) X hw (c_X8_log l G mo th ea sa lk lq lz rb rn rt rk cb cm cu ck mk nt kp iq un tm kr kc se tr ka wr cn f1 f2 f3 1 (nI k) (em k) hc) (C := RX8) gX8_lift_X8_log (q0 := 0) rfl rfl rfl ⟨rfl, rfl⟩ (by decide +kernel) ⟨by decide, by decide⟩ rfl hl.1 rfl (Nat.le_of_ble_eq_true rfl) dX8_lift_26 ⟨by decide, by decide⟩ [0, 3, 4, 5] [1, 2] rfl rfl rfl rfl (by decide) (fun r w1 H locs hp hw => ?_)
    obtain ⟨rfl, rfl⟩ := hp
    have hw := hw.sub (ws' := [(mo, .inr (5, [.ref th, .ref ea, .ref sa, .ref lk, .ref lq, .ref lz, .int (nI (lgc cn)), .int un, .int tm, .ref rb, .ref rn, .ref rt, .ref rk, .int kr, .ref cb, .ref cm, .ref cu, .ref ck, .int kc, .int se, .int tr, .ref mk, .ref nt, .ref kp, .ref iq, .int ka, .int wr])), (th, .inl (G.2.1, 61, .inl (tB (bcm m k (-6))))), (ea, .inl (G.2.1, 61, .inl em)), (lk, .inl (G.2.1, 16, .inl (lgA cn f1 1))), (lq, .inl (G.2.1, 16, .inl (lgA cn f2 (nI k)))), (lz, .inl (G.2.1, 16, .inl (lgA cn f3 (em k))))]) [2, 0, 1, 3, 4, 5] rfl rfl
    refine W.eq (g2 := F0 mt 29 ls []) rfl ?_
    refine lv_aload_n hx hb dX8_lift_29 rfl (lv_at hl 0 rfl) ?_
    refine xcV (n := 0) (As := []) (rest := []) (wc := [(mo, .inr (5, [.ref th, .ref ea, .ref sa, .ref lk, .ref lq, .ref lz, .int (nI (lgc cn)), .int un, .int tm, .ref rb, .ref rn, .ref rt, .ref rk, .int kr, .ref cb, .ref cm, .ref cu, .ref ck, .int kc, .int se, .int tr, .ref mk, .ref nt, .ref kp, .ref iq, .int ka, .int wr])), (th, .inl (G.2.1, 61, .inl (tB (bcm m k (-6)))))]) (wr := [(ea, .inl (G.2.1, 61, .inl em)), (lk, .inl (G.2.1, 16, .inl (lgA cn f1 1))), (lq, .inl (G.2.1, 16, .inl (lgA cn f2 (nI k)))), (lz, .inl (G.2.1, 16, .inl (lgA cn f3 (em k))))]) X hw (c_X8_dishes l G mo th ea sa lk lq lz rb rn rt rk cb cm cu ck mk nt kp iq (nI (lgc cn)) un tm kr kc se tr ka wr (bcm m k (-6)) (bcm_lt hm hk)) (C := RX8) gX8_lift_X8_dishes (q0 := 0) rfl rfl rfl ⟨rfl, rfl⟩ (by decide +kernel) ⟨by decide, by decide⟩ rfl hl.1 rfl (Nat.le_of_ble_eq_true rfl) dX8_lift_30 ⟨by decide, by decide⟩ [0, 1] [2, 3, 4, 5] rfl rfl rfl rfl (by decide) (fun r w1 H locs hp hw => ?_)
    obtain ⟨rfl, rfl⟩ := hp
    have hw := hw.sub (ws' := [(mo, .inr (5, [.ref th, .ref ea, .ref sa, .ref lk, .ref lq, .ref lz, .int (nI (lgc cn)), .int un, .int tm, .ref rb, .ref rn, .ref rt, .ref rk, .int kr, .ref cb, .ref cm, .ref cu, .ref ck, .int kc, .int se, .int tr, .ref mk, .ref nt, .ref kp, .ref iq, .int ka, .int wr])), (th, .inl (G.2.1, 61, .inl (tB (bcm m k (-6))))), (ea, .inl (G.2.1, 61, .inl em)), (lk, .inl (G.2.1, 16, .inl (lgA cn f1 1))), (lq, .inl (G.2.1, 16, .inl (lgA cn f2 (nI k)))), (lz, .inl (G.2.1, 16, .inl (lgA cn f3 (em k))))]) [4, 5, 0, 1, 2, 3] rfl rfl
    refine W.eq (g2 := F0 mt 33 ls [.int (nI (pcN 64 (bcm m k (-6))))]) rfl ?_
    refine hret _ _ _ _ _ _ dX8_lift_33 hw ?_
    refine ⟨congrArg (fun z => some (Value.int z)) (by simp [liftR, hs, hck]), Or.inr ⟨hs, ?_⟩⟩
    rw [hck]
  · have hs := bi_f c5
    refine lv_iconst (v := (-1)) hx hb dX8_lift_8 (by decide) ?_
    refine hret _ _ _ _ _ _ dX8_lift_9 hw ?_
    exact ⟨congrArg (fun z => some (Value.int z)) (by simp [liftR, hs]), Or.inl ⟨by exact hs, rfl⟩⟩

set_option maxHeartbeats 4000000 in
set_option maxRecDepth 100000 in
theorem c_X8_undo (l : Launch) (G : GG) (mo : Nat) (th : Nat) (ea : Nat) (sa : Nat) (lk : Nat) (lq : Nat) (lz : Nat) (rb : Nat) (rn : Nat) (rt : Nat) (rk : Nat) (cb : Nat) (cm : Nat) (cu : Nat) (ck : Nat) (mk : Nat) (nt : Nat) (kp : Nat) (iq : Nat) (un : Int32) (tm : Int32) (kr : Int32) (kc : Int32) (se : Int32) (tr : Int32) (ka : Int32) (wr : Int32) (cn : Nat) (m : Nat) (em : Nat → Int32) (f1 : Nat → Int32) (f2 : Nat → Int32) (f3 : Nat → Int32) (kk : Nat) (bb : Int32) (hc : cn ≤ 16) (hkk : cn ≠ 0 → f2 (cn - 1) = nI kk ∧ kk ≤ 60 ∧ (f1 (cn - 1) = 0 ↔ bb = -6)) : CT l G yX8_undo wsX8_undo ({ frames := 0, cells := 0, slots := 0, locals := 0 } : Room) [.ref mo] [(mo, .inr (5, [.ref th, .ref ea, .ref sa, .ref lk, .ref lq, .ref lz, .int (nI cn), .int un, .int tm, .ref rb, .ref rn, .ref rt, .ref rk, .int kr, .ref cb, .ref cm, .ref cu, .ref ck, .int kc, .int se, .int tr, .ref mk, .ref nt, .ref kp, .ref iq, .int ka, .int wr])), (th, .inl (G.2.1, 61, .inl (tB m))), (ea, .inl (G.2.1, 61, .inl em)), (lk, .inl (G.2.1, 16, .inl f1)), (lq, .inl (G.2.1, 16, .inl f2)), (lz, .inl (G.2.1, 16, .inl f3))] (fun r w => (cn = 0 ∧ r = some (.int (-5)) ∧ w = [(mo, .inr (5, [.ref th, .ref ea, .ref sa, .ref lk, .ref lq, .ref lz, .int (nI cn), .int un, .int tm, .ref rb, .ref rn, .ref rt, .ref rk, .int kr, .ref cb, .ref cm, .ref cu, .ref ck, .int kc, .int se, .int tr, .ref mk, .ref nt, .ref kp, .ref iq, .int ka, .int wr])), (th, .inl (G.2.1, 61, .inl (tB m))), (ea, .inl (G.2.1, 61, .inl em)), (lk, .inl (G.2.1, 16, .inl f1)), (lq, .inl (G.2.1, 16, .inl f2)), (lz, .inl (G.2.1, 16, .inl f3))]) ∨ (cn ≠ 0 ∧ r = some (.int (nI (cn - 1))) ∧ w = [(mo, .inr (5, [.ref th, .ref ea, .ref sa, .ref lk, .ref lq, .ref lz, .int (nI (cn - 1)), .int (un + 1), .int tm, .ref rb, .ref rn, .ref rt, .ref rk, .int kr, .ref cb, .ref cm, .ref cu, .ref ck, .int kc, .int se, .int tr, .ref mk, .ref nt, .ref kp, .ref iq, .int ka, .int wr])), (th, .inl (G.2.1, 61, .inl (tB (bcm m kk bb)))), (ea, .inl (G.2.1, 61, .inl (upd em kk (f3 (cn - 1))))), (lk, .inl (G.2.1, 16, .inl f1)), (lq, .inl (G.2.1, 16, .inl f2)), (lz, .inl (G.2.1, 16, .inl f3))])) 0 0 := by
  refine ct_i (cc := cX8_undo) (maxL := 2) (by decide +kernel) rfl (Nat.le_of_ble_eq_true rfl) ?_
  intro p e s mt below meth c A Q X hw hret ls hl
  obtain ⟨hx, hb, -⟩ := id X
  have hl : lv_has ls 2 [(0, .ref mo)] := hl
  refine lv_aload_n hx hb dX8_undo_0 rfl (lv_at hl 0 rfl) ?_
  refine xg X hw (C := RX8) (T := TX8) (N := 27) (by decide +kernel) 0 rfl rfl 6 (by decide) rfl (by decide +kernel) rfl dX8_undo_1 ?_
  refine lv_if_ne (tgt := 10) hx hb dX8_undo_4 (by decide) (fun c4 => ?_) (fun c4 => ?_)
  · have h0 : cn ≠ 0 := fun q => c4 (by rw [q]; rfl)
    obtain ⟨hkk1, hkk2, hkb⟩ := hkk h0
    refine lv_aload_n hx hb dX8_undo_10 rfl (lv_at hl 0 rfl) ?_
    refine lv_dup hx hb dX8_undo_11 rfl ?_
    refine xg X hw (C := RX8) (T := TX8) (N := 27) (by decide +kernel) 0 rfl rfl 6 (by decide) rfl (by decide +kernel) rfl dX8_undo_12 ?_
    refine lv_iconst (v := 1) hx hb dX8_undo_15 (by decide) ?_
    refine lv_isub hx hb dX8_undo_16 ?_
    refine x_cvi (y := nI (cn - 1)) (by exact pk_sub (b := 1) (by omega)) ?_
    refine xp X hw (C := RX8) (ty := .int) (T := TX8) (N := 27) (by decide +kernel) tyX8 tyX8_ok nmX8 0 rfl rfl 6 (by decide) rfl (by decide +kernel) rfl (by decide +kernel) rfl rfl (Nat.le_of_ble_eq_true rfl) dX8_undo_17 (ws' := [(mo, .inr (5, [.ref th, .ref ea, .ref sa, .ref lk, .ref lq, .ref lz, .int (nI (cn - 1)), .int un, .int tm, .ref rb, .ref rn, .ref rt, .ref rk, .int kr, .ref cb, .ref cm, .ref cu, .ref ck, .int kc, .int se, .int tr, .ref mk, .ref nt, .ref kp, .ref iq, .int ka, .int wr])), (th, .inl (G.2.1, 61, .inl (tB m))), (ea, .inl (G.2.1, 61, .inl em)), (lk, .inl (G.2.1, 16, .inl f1)), (lq, .inl (G.2.1, 16, .inl f2)), (lz, .inl (G.2.1, 16, .inl f3))]) rfl (fun H locs hw => ?_)
    refine lv_aload_n hx hb dX8_undo_20 rfl (lv_at hl 0 rfl) ?_
    refine lv_dup hx hb dX8_undo_21 rfl ?_
    refine xg X hw (C := RX8) (T := TX8) (N := 27) (by decide +kernel) 0 rfl rfl 7 (by decide) rfl (by decide +kernel) rfl dX8_undo_22 ?_
    refine lv_iconst (v := 1) hx hb dX8_undo_25 (by decide) ?_
    refine lv_iadd hx hb dX8_undo_26 ?_
    refine xp X hw (C := RX8) (ty := .int) (T := TX8) (N := 27) (by decide +kernel) tyX8 tyX8_ok nmX8 0 rfl rfl 7 (by decide) rfl (by decide +kernel) rfl (by decide +kernel) rfl rfl (Nat.le_of_ble_eq_true rfl) dX8_undo_27 (ws' := [(mo, .inr (5, [.ref th, .ref ea, .ref sa, .ref lk, .ref lq, .ref lz, .int (nI (cn - 1)), .int (un + 1), .int tm, .ref rb, .ref rn, .ref rt, .ref rk, .int kr, .ref cb, .ref cm, .ref cu, .ref ck, .int kc, .int se, .int tr, .ref mk, .ref nt, .ref kp, .ref iq, .int ka, .int wr])), (th, .inl (G.2.1, 61, .inl (tB m))), (ea, .inl (G.2.1, 61, .inl em)), (lk, .inl (G.2.1, 16, .inl f1)), (lq, .inl (G.2.1, 16, .inl f2)), (lz, .inl (G.2.1, 16, .inl f3))]) rfl (fun H locs hw => ?_)
    refine lv_aload_n hx hb dX8_undo_30 rfl (lv_at hl 0 rfl) ?_
    refine xg X hw (C := RX8) (T := TX8) (N := 27) (by decide +kernel) 0 rfl rfl 4 (by decide) rfl (by decide +kernel) rfl dX8_undo_31 ?_
    refine lv_aload_n hx hb dX8_undo_34 rfl (lv_at hl 0 rfl) ?_
    refine xg X hw (C := RX8) (T := TX8) (N := 27) (by decide +kernel) 0 rfl rfl 6 (by decide) rfl (by decide +kernel) rfl dX8_undo_35 ?_
    refine xia X hw 4 rfl (j := (cn - 1)) (rfl) (by omega) (by decide) dX8_undo_38 ?_
    refine x_cvi (y := nI kk) (by exact hkk1) ?_
    refine lv_istore_n (lv' := [(1, .int (nI kk)), (0, .ref mo)]) hx hb dX8_undo_39 rfl hl (by decide) rfl (fun ls hl => ?_)
    refine lv_aload_n hx hb dX8_undo_40 rfl (lv_at hl 1 rfl) ?_
    refine xg X hw (C := RX8) (T := TX8) (N := 27) (by decide +kernel) 0 rfl rfl 0 (by decide) rfl (by decide +kernel) rfl dX8_undo_41 ?_
    refine lv_iload_n hx hb dX8_undo_44 rfl (lv_at hl 0 rfl) ?_
    refine lv_aload_n hx hb dX8_undo_45 rfl (lv_at hl 1 rfl) ?_
    refine xg X hw (C := RX8) (T := TX8) (N := 27) (by decide +kernel) 0 rfl rfl 3 (by decide) rfl (by decide +kernel) rfl dX8_undo_46 ?_
    refine lv_aload_n hx hb dX8_undo_49 rfl (lv_at hl 1 rfl) ?_
    refine xg X hw (C := RX8) (T := TX8) (N := 27) (by decide +kernel) 0 rfl rfl 6 (by decide) rfl (by decide +kernel) rfl dX8_undo_50 ?_
    refine xia X hw 3 rfl (j := (cn - 1)) (rfl) (by omega) (by decide) dX8_undo_53 ?_
    refine lv_if_ne (tgt := 61) hx hb dX8_undo_54 (by decide) (fun c54 => ?_) (fun c54 => ?_)
    · refine lv_iconst (v := 1) hx hb dX8_undo_61 (by decide) ?_
      refine xis X hw 1 rfl (j := kk) (rfl) (by omega) (by decide) dX8_undo_62 (ws' := [(mo, .inr (5, [.ref th, .ref ea, .ref sa, .ref lk, .ref lq, .ref lz, .int (nI (cn - 1)), .int (un + 1), .int tm, .ref rb, .ref rn, .ref rt, .ref rk, .int kr, .ref cb, .ref cm, .ref cu, .ref ck, .int kc, .int se, .int tr, .ref mk, .ref nt, .ref kp, .ref iq, .int ka, .int wr])), (th, .inl (G.2.1, 61, .inl (upd (tB m) kk 1))), (ea, .inl (G.2.1, 61, .inl em)), (lk, .inl (G.2.1, 16, .inl f1)), (lq, .inl (G.2.1, 16, .inl f2)), (lz, .inl (G.2.1, 16, .inl f3))]) rfl (fun H locs hw => ?_)
      rw [tB_up m kk bb 1 (by rw [if_neg (fun q => c54 (hkb.mpr q))])] at hw
      refine lv_aload_n hx hb dX8_undo_63 rfl (lv_at hl 1 rfl) ?_
      refine xg X hw (C := RX8) (T := TX8) (N := 27) (by decide +kernel) 0 rfl rfl 1 (by decide) rfl (by decide +kernel) rfl dX8_undo_64 ?_
      refine lv_iload_n hx hb dX8_undo_67 rfl (lv_at hl 0 rfl) ?_
      refine lv_aload_n hx hb dX8_undo_68 rfl (lv_at hl 1 rfl) ?_
      refine xg X hw (C := RX8) (T := TX8) (N := 27) (by decide +kernel) 0 rfl rfl 5 (by decide) rfl (by decide +kernel) rfl dX8_undo_69 ?_
      refine lv_aload_n hx hb dX8_undo_72 rfl (lv_at hl 1 rfl) ?_
      refine xg X hw (C := RX8) (T := TX8) (N := 27) (by decide +kernel) 0 rfl rfl 6 (by decide) rfl (by decide +kernel) rfl dX8_undo_73 ?_
      refine xia X hw 5 rfl (j := (cn - 1)) (rfl) (by omega) (by decide) dX8_undo_76 ?_
      refine xis X hw 2 rfl (j := kk) (rfl) (by omega) (by decide) dX8_undo_77 (ws' := [(mo, .inr (5, [.ref th, .ref ea, .ref sa, .ref lk, .ref lq, .ref lz, .int (nI (cn - 1)), .int (un + 1), .int tm, .ref rb, .ref rn, .ref rt, .ref rk, .int kr, .ref cb, .ref cm, .ref cu, .ref ck, .int kc, .int se, .int tr, .ref mk, .ref nt, .ref kp, .ref iq, .int ka, .int wr])), (th, .inl (G.2.1, 61, .inl (tB (bcm m kk bb)))), (ea, .inl (G.2.1, 61, .inl (upd em kk (f3 (cn - 1))))), (lk, .inl (G.2.1, 16, .inl f1)), (lq, .inl (G.2.1, 16, .inl f2)), (lz, .inl (G.2.1, 16, .inl f3))]) rfl (fun H locs hw => ?_)
      refine lv_aload_n hx hb dX8_undo_78 rfl (lv_at hl 1 rfl) ?_
      refine xg X hw (C := RX8) (T := TX8) (N := 27) (by decide +kernel) 0 rfl rfl 6 (by decide) rfl (by decide +kernel) rfl dX8_undo_79 ?_
      refine hret _ _ _ _ _ _ dX8_undo_82 hw ?_
      exact Or.inr ⟨h0, rfl, rfl⟩
    · refine lv_iconst (v := 0) hx hb dX8_undo_57 (by decide) ?_
      refine lv_goto (tgt := 62) hx hb dX8_undo_58 (by decide) ?_
      refine xis X hw 1 rfl (j := kk) (rfl) (by omega) (by decide) dX8_undo_62 (ws' := [(mo, .inr (5, [.ref th, .ref ea, .ref sa, .ref lk, .ref lq, .ref lz, .int (nI (cn - 1)), .int (un + 1), .int tm, .ref rb, .ref rn, .ref rt, .ref rk, .int kr, .ref cb, .ref cm, .ref cu, .ref ck, .int kc, .int se, .int tr, .ref mk, .ref nt, .ref kp, .ref iq, .int ka, .int wr])), (th, .inl (G.2.1, 61, .inl (upd (tB m) kk 0))), (ea, .inl (G.2.1, 61, .inl em)), (lk, .inl (G.2.1, 16, .inl f1)), (lq, .inl (G.2.1, 16, .inl f2)), (lz, .inl (G.2.1, 16, .inl f3))]) rfl (fun H locs hw => ?_)
      rw [tB_up m kk bb 0 (by rw [if_pos (hkb.mp c54)])] at hw
      refine lv_aload_n hx hb dX8_undo_63 rfl (lv_at hl 1 rfl) ?_
      refine xg X hw (C := RX8) (T := TX8) (N := 27) (by decide +kernel) 0 rfl rfl 1 (by decide) rfl (by decide +kernel) rfl dX8_undo_64 ?_
      refine lv_iload_n hx hb dX8_undo_67 rfl (lv_at hl 0 rfl) ?_
      refine lv_aload_n hx hb dX8_undo_68 rfl (lv_at hl 1 rfl) ?_
      refine xg X hw (C := RX8) (T := TX8) (N := 27) (by decide +kernel) 0 rfl rfl 5 (by decide) rfl (by decide +kernel) rfl dX8_undo_69 ?_
      refine lv_aload_n hx hb dX8_undo_72 rfl (lv_at hl 1 rfl) ?_
      refine xg X hw (C := RX8) (T := TX8) (N := 27) (by decide +kernel) 0 rfl rfl 6 (by decide) rfl (by decide +kernel) rfl dX8_undo_73 ?_
      refine xia X hw 5 rfl (j := (cn - 1)) (rfl) (by omega) (by decide) dX8_undo_76 ?_
      refine xis X hw 2 rfl (j := kk) (rfl) (by omega) (by decide) dX8_undo_77 (ws' := [(mo, .inr (5, [.ref th, .ref ea, .ref sa, .ref lk, .ref lq, .ref lz, .int (nI (cn - 1)), .int (un + 1), .int tm, .ref rb, .ref rn, .ref rt, .ref rk, .int kr, .ref cb, .ref cm, .ref cu, .ref ck, .int kc, .int se, .int tr, .ref mk, .ref nt, .ref kp, .ref iq, .int ka, .int wr])), (th, .inl (G.2.1, 61, .inl (tB (bcm m kk bb)))), (ea, .inl (G.2.1, 61, .inl (upd em kk (f3 (cn - 1))))), (lk, .inl (G.2.1, 16, .inl f1)), (lq, .inl (G.2.1, 16, .inl f2)), (lz, .inl (G.2.1, 16, .inl f3))]) rfl (fun H locs hw => ?_)
      refine lv_aload_n hx hb dX8_undo_78 rfl (lv_at hl 1 rfl) ?_
      refine xg X hw (C := RX8) (T := TX8) (N := 27) (by decide +kernel) 0 rfl rfl 6 (by decide) rfl (by decide +kernel) rfl dX8_undo_79 ?_
      refine hret _ _ _ _ _ _ dX8_undo_82 hw ?_
      exact Or.inr ⟨h0, rfl, rfl⟩
  · have h0 : cn = 0 := i_eq (b := 0) (by omega) (by decide) c4
    refine lv_bipush (v := (-5)) hx hb dX8_undo_7 (by decide) ?_
    refine hret _ _ _ _ _ _ dX8_undo_9 hw ?_
    exact Or.inl ⟨h0, rfl, rfl⟩

set_option maxHeartbeats 4000000 in
set_option maxRecDepth 100000 in
theorem c_X8_station (l : Launch) (G : GG) (mo : Nat) (th : Nat) (ea : Nat) (sa : Nat) (lk : Nat) (lq : Nat) (lz : Nat) (rb : Nat) (rn : Nat) (rt : Nat) (rk : Nat) (cb : Nat) (cm : Nat) (cu : Nat) (ck : Nat) (mk : Nat) (nt : Nat) (kp : Nat) (iq : Nat) (lg : Int32) (un : Int32) (tm : Int32) (kr : Int32) (kc : Int32) (se : Int32) (tr : Int32) (ka : Int32) (wr : Int32) (m : Nat) (i : Int32)  : CT l G yX8_station wsX8_station ({ frames := 0, cells := 0, slots := 0, locals := 0 } : Room) [.ref mo, .int i] [(mo, .inr (5, [.ref th, .ref ea, .ref sa, .ref lk, .ref lq, .ref lz, .int lg, .int un, .int tm, .ref rb, .ref rn, .ref rt, .ref rk, .int kr, .ref cb, .ref cm, .ref cu, .ref ck, .int kc, .int se, .int tr, .ref mk, .ref nt, .ref kp, .ref iq, .int ka, .int wr])), (th, .inl (G.2.1, 61, .inl (tB m)))] (fun r w => r = some (.int (mkA m i)) ∧ w = [(mo, .inr (5, [.ref th, .ref ea, .ref sa, .ref lk, .ref lq, .ref lz, .int lg, .int un, .int tm, .ref rb, .ref rn, .ref rt, .ref rk, .int kr, .ref cb, .ref cm, .ref cu, .ref ck, .int kc, .int se, .int tr, .ref mk, .ref nt, .ref kp, .ref iq, .int ka, .int wr])), (th, .inl (G.2.1, 61, .inl (tB m)))]) 0 0 := by
  refine ct_i (cc := cX8_station) (maxL := 4) (by decide +kernel) rfl (Nat.le_of_ble_eq_true rfl) ?_
  intro p e s mt below meth c A Q X hw hret ls hl
  obtain ⟨hx, hb, -⟩ := id X
  have hl : lv_has ls 4 [(0, .ref mo), (1, .int i)] := hl
  refine lv_iconst (v := 0) hx hb dX8_station_0 (by decide) ?_
  refine x_cvi (y := nI 0) (by rfl) ?_
  refine lv_istore_n (lv' := [(2, .int (nI 0)), (0, .ref mo), (1, .int i)]) hx hb dX8_station_1 rfl hl (by decide) rfl (fun ls hl => ?_)
  refine lv_iconst (v := 0) hx hb dX8_station_2 (by decide) ?_
  refine x_cvi (y := nI 0) (by rfl) ?_
  refine lv_istore_n (lv' := [(3, .int (nI 0)), (2, .int (nI 0)), (0, .ref mo), (1, .int i)]) hx hb dX8_station_3 rfl hl (by decide) rfl (fun ls hl => ?_)
  have lp4 : ∀ (fu : Nat) (k : Nat) (a : Nat) (H : Heap) (locs : List Loc) (ls : Array Slot), 61 - k < fu → (k ≤ 61) → (a ≤ k) → (mkF m i (61 - k) k a = mkA m i) → WS G A s.heap H locs [(mo, .inr (5, [.ref th, .ref ea, .ref sa, .ref lk, .ref lq, .ref lz, .int lg, .int un, .int tm, .ref rb, .ref rn, .ref rt, .ref rk, .int kr, .ref cb, .ref cm, .ref cu, .ref ck, .int kc, .int se, .int tr, .ref mk, .ref nt, .ref kp, .ref iq, .int ka, .int wr])), (th, .inl (G.2.1, 61, .inl (tB m)))] → lv_has ls 4 [(0, .ref mo), (1, .int i), (2, .int (nI a)), (3, .int (nI k))] → W p l e ({ frames := 0, cells := 0, slots := 0, locals := 0 } : Room) s mt ([.ref mo, .int i] : List Value).toArray below meth c H locs 0 0 Q (F0 mt 4 ls []) := by
    intro fu
    induction fu with
    | zero =>
      intro k a H locs ls hmu
      exact absurd hmu (Nat.not_lt_zero _)
    | succ fu ih4 =>
      intro k a H locs ls hmu4 hk ha hR hw hl
      refine lv_iload_n hx hb dX8_station_4 rfl (lv_at hl 3 rfl) ?_
      refine lv_bipush (v := 60) hx hb dX8_station_5 (by decide) ?_
      refine lv_icmp_gt (tgt := 36) hx hb dX8_station_7 (by decide) (fun c7 => ?_) (fun c7 => ?_)
      · have hk2 : 60 < k := i_lt (by decide) (by omega) c7
        refine lv_bipush (v := (-6)) hx hb dX8_station_36 (by decide) ?_
        refine hret _ _ _ _ _ _ dX8_station_38 hw ?_
        exact ⟨congrArg (fun z => some (Value.int z)) (by rw [show k = 61 by omega] at hR; exact hR), rfl⟩
      · have hk2 : k ≤ 60 := i_nlt (by decide) (by omega) c7
        refine lv_aload_n hx hb dX8_station_10 rfl (lv_at hl 0 rfl) ?_
        refine xg X hw (C := RX8) (T := TX8) (N := 27) (by decide +kernel) 0 rfl rfl 0 (by decide) rfl (by decide +kernel) rfl dX8_station_11 ?_
        refine lv_iload_n hx hb dX8_station_14 rfl (lv_at hl 3 rfl) ?_
        refine xia X hw 1 rfl (j := k) (rfl) (by omega) (by decide) dX8_station_15 ?_
        refine lv_iconst (v := 1) hx hb dX8_station_16 (by decide) ?_
        refine lv_icmp_ne (tgt := 30) hx hb dX8_station_17 (by decide) (fun c17 => ?_) (fun c17 => ?_)
        · have hbt := tB_n c17
          refine lv_iinc (v := nI (k + 1)) (lv' := [(3, .int (nI (k + 1))), (0, .ref mo), (1, .int i), (2, .int (nI a))]) hx hb dX8_station_30 hl (k := 3) rfl (by exact nI_1 _) (by decide) rfl (fun ls hl => ?_)
          refine lv_goto (tgt := 4) hx hb dX8_station_33 (by decide) ?_
          exact ih4 (k + 1) a _ _ _ (by omega) (by omega) (by omega) (by rw [show 61 - k = (61 - (k + 1)) + 1 by omega] at hR; simpa [mkF, hbt] using hR) hw (lv_sub hl [1, 2, 3, 0] rfl)
        · have hbt := tB_1 c17
          refine lv_iload_n hx hb dX8_station_20 rfl (lv_at hl 2 rfl) ?_
          refine lv_iload_n hx hb dX8_station_21 rfl (lv_at hl 1 rfl) ?_
          refine lv_icmp_ne (tgt := 27) hx hb dX8_station_22 (by decide) (fun c22 => ?_) (fun c22 => ?_)
          · refine lv_iinc (v := nI (a + 1)) (lv' := [(2, .int (nI (a + 1))), (0, .ref mo), (1, .int i), (3, .int (nI k))]) hx hb dX8_station_27 hl (k := 2) rfl (by exact nI_1 _) (by decide) rfl (fun ls hl => ?_)
            refine lv_iinc (v := nI (k + 1)) (lv' := [(3, .int (nI (k + 1))), (2, .int (nI (a + 1))), (0, .ref mo), (1, .int i)]) hx hb dX8_station_30 hl (k := 3) rfl (by exact nI_1 _) (by decide) rfl (fun ls hl => ?_)
            refine lv_goto (tgt := 4) hx hb dX8_station_33 (by decide) ?_
            exact ih4 (k + 1) (a + 1) _ _ _ (by omega) (by omega) (by omega) (by rw [show 61 - k = (61 - (k + 1)) + 1 by omega] at hR; simpa [mkF, hbt, c22] using hR) hw (lv_sub hl [2, 3, 1, 0] rfl)
          · refine lv_iload_n hx hb dX8_station_25 rfl (lv_at hl 3 rfl) ?_
            refine hret _ _ _ _ _ _ dX8_station_26 hw ?_
            exact ⟨congrArg (fun z => some (Value.int z)) (by rw [show 61 - k = (61 - (k + 1)) + 1 by omega] at hR; simpa [mkF, hbt, c22] using hR), rfl⟩
  exact lp4 _ 0 0 _ _ _ (Nat.lt_succ_self _) (by omega) (by omega) (rfl) hw (lv_sub hl [2, 3, 1, 0] rfl)
