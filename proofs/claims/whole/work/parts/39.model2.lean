set_option maxHeartbeats 4000000 in
set_option maxRecDepth 100000 in
theorem c_X8_oftenBut (l : Launch) (G : GG) (mo : Nat) (th : Nat) (ea : Nat) (sa : Nat) (lk : Nat) (lq : Nat) (lz : Nat) (rb : Nat) (rn : Nat) (rt : Nat) (rk : Nat) (cb : Nat) (cm : Nat) (cu : Nat) (ck : Nat) (mk : Nat) (nt : Nat) (kp : Nat) (iq : Nat) (lg : Int32) (un : Int32) (tm : Int32) (kr : Int32) (kc : Int32) (se : Int32) (tr : Int32) (ka : Int32) (wr : Int32) (m : Nat) (d : Nat) (bu : Int32) (hm : m < 2 ^ 61) (hd1 : 1 ≤ d) (hd2 : d ≤ 60) : CT l G yX8_oftenBut wsX8_oftenBut ({ frames := 0, cells := 0, slots := 0, locals := 0 } : Room) [.ref mo, .int (nI d), .int bu] [(mo, .inr (5, [.ref th, .ref ea, .ref sa, .ref lk, .ref lq, .ref lz, .int lg, .int un, .int tm, .ref rb, .ref rn, .ref rt, .ref rk, .int kr, .ref cb, .ref cm, .ref cu, .ref ck, .int kc, .int se, .int tr, .ref mk, .ref nt, .ref kp, .ref iq, .int ka, .int wr])), (th, .inl (G.2.1, 61, .inl (tB m)))] (fun r w => r = some (.int (nI (ofN (woN m (bitO bu)) d))) ∧ w = [(mo, .inr (5, [.ref th, .ref ea, .ref sa, .ref lk, .ref lq, .ref lz, .int lg, .int un, .int tm, .ref rb, .ref rn, .ref rt, .ref rk, .int kr, .ref cb, .ref cm, .ref cu, .ref ck, .int kc, .int se, .int tr, .ref mk, .ref nt, .ref kp, .ref iq, .int ka, .int wr])), (th, .inl (G.2.1, 61, .inl (tB m)))]) 0 0 := by
  refine ct_i (cc := cX8_oftenBut) (maxL := 5) (by decide +kernel) rfl (Nat.le_of_ble_eq_true rfl) ?_
  intro p e s mt below meth c A Q X hw hret ls hl
  obtain ⟨hx, hb, -⟩ := id X
  have hl : lv_has ls 5 [(0, .ref mo), (1, .int (nI d)), (2, .int bu)] := hl
  refine lv_iconst (v := 0) hx hb dX8_oftenBut_0 (by decide) ?_
  refine x_cvi (y := nI 0) (by rfl) ?_
  refine lv_istore_n (lv' := [(3, .int (nI 0)), (0, .ref mo), (1, .int (nI d)), (2, .int bu)]) hx hb dX8_oftenBut_1 rfl hl (by decide) rfl (fun ls hl => ?_)
  refine lv_iconst (v := 0) hx hb dX8_oftenBut_2 (by decide) ?_
  refine x_cvi (y := nI 0) (by rfl) ?_
  refine lv_istore (lv' := [(4, .int (nI 0)), (3, .int (nI 0)), (0, .ref mo), (1, .int (nI d)), (2, .int bu)]) hx hb dX8_oftenBut_3 hl (by decide) rfl (fun ls hl => ?_)
  have lp5 : ∀ (fu : Nat) (q : Nat) (a : Nat) (H : Heap) (locs : List Loc) (ls : Array Slot), 61 - q < fu → (q + d ≤ 61) → (a = fb_ct (ofP (woN m (bitO bu)) d) q) → WS G A s.heap H locs [(mo, .inr (5, [.ref th, .ref ea, .ref sa, .ref lk, .ref lq, .ref lz, .int lg, .int un, .int tm, .ref rb, .ref rn, .ref rt, .ref rk, .int kr, .ref cb, .ref cm, .ref cu, .ref ck, .int kc, .int se, .int tr, .ref mk, .ref nt, .ref kp, .ref iq, .int ka, .int wr])), (th, .inl (G.2.1, 61, .inl (tB m)))] → lv_has ls 5 [(0, .ref mo), (1, .int (nI d)), (2, .int bu), (3, .int (nI a)), (4, .int (nI q))] → W p l e ({ frames := 0, cells := 0, slots := 0, locals := 0 } : Room) s mt ([.ref mo, .int (nI d), .int bu] : List Value).toArray below meth c H locs 0 0 Q (F0 mt 5 ls []) := by
    intro fu
    induction fu with
    | zero =>
      intro q a H locs ls hmu
      exact absurd hmu (Nat.not_lt_zero _)
    | succ fu ih5 =>
      intro q a H locs ls hmu5 hq ha hw hl
      refine lv_iload hx hb dX8_oftenBut_5 (lv_at hl 4 rfl) ?_
      refine lv_iload_n hx hb dX8_oftenBut_7 rfl (lv_at hl 1 rfl) ?_
      refine lv_iadd hx hb dX8_oftenBut_8 ?_
      refine x_cvi (y := nI (q + d)) (by exact nI_add _ _) ?_
      refine lv_bipush (v := 60) hx hb dX8_oftenBut_9 (by decide) ?_
      refine lv_icmp_gt (tgt := 58) hx hb dX8_oftenBut_11 (by decide) (fun c11 => ?_) (fun c11 => ?_)
      · have hk2 : 60 < q + d := i_lt (by decide) (by omega) c11
        refine lv_iload_n hx hb dX8_oftenBut_58 rfl (lv_at hl 3 rfl) ?_
        refine hret _ _ _ _ _ _ dX8_oftenBut_59 hw ?_
        exact ⟨congrArg (fun z => some (Value.int z)) (by rw [ha, of_end (wo_lt _ hm) hd1 (by omega)]), rfl⟩
      · have hk2 : q + d ≤ 60 := i_nlt (by decide) (by omega) c11
        refine lv_iload_n hx hb dX8_oftenBut_14 rfl (lv_at hl 3 rfl) ?_
        refine lv_iload hx hb dX8_oftenBut_15 (lv_at hl 4 rfl) ?_
        refine lv_iload_n hx hb dX8_oftenBut_17 rfl (lv_at hl 2 rfl) ?_
        refine lv_icmp_eq (tgt := 49) hx hb dX8_oftenBut_18 (by decide) (fun c18 => ?_) (fun c18 => ?_)
        · refine lv_iconst (v := 0) hx hb dX8_oftenBut_49 (by decide) ?_
          refine lv_iadd hx hb dX8_oftenBut_50 ?_
          refine x_cvi (y := nI (fb_ct (ofP (woN m (bitO bu)) d) (q + 1))) (by exact ct_b0 ha (by unfold ofP; first | (rw [woB_at (by omega) c18]; rfl) | (rw [woB_at (q := q + d) (by omega) c26]; simp))) ?_
          refine lv_istore_n (lv' := [(3, .int (nI (fb_ct (ofP (woN m (bitO bu)) d) (q + 1)))), (0, .ref mo), (1, .int (nI d)), (2, .int bu), (4, .int (nI q))]) hx hb dX8_oftenBut_51 rfl hl (by decide) rfl (fun ls hl => ?_)
          refine lv_iinc (v := nI (q + 1)) (lv' := [(4, .int (nI (q + 1))), (3, .int (nI (fb_ct (ofP (woN m (bitO bu)) d) (q + 1)))), (0, .ref mo), (1, .int (nI d)), (2, .int bu)]) hx hb dX8_oftenBut_52 hl (k := 4) rfl (by exact nI_1 _) (by decide) rfl (fun ls hl => ?_)
          refine lv_goto (tgt := 5) hx hb dX8_oftenBut_55 (by decide) ?_
          exact ih5 (q + 1) (fb_ct (ofP (woN m (bitO bu)) d) (q + 1)) _ _ _ (by omega) (by omega) (rfl) hw (lv_sub hl [2, 3, 4, 1, 0] rfl)
        · refine lv_iload hx hb dX8_oftenBut_21 (lv_at hl 4 rfl) ?_
          refine lv_iload_n hx hb dX8_oftenBut_23 rfl (lv_at hl 1 rfl) ?_
          refine lv_iadd hx hb dX8_oftenBut_24 ?_
          refine x_cvi (y := nI (q + d)) (by exact nI_add _ _) ?_
          refine lv_iload_n hx hb dX8_oftenBut_25 rfl (lv_at hl 2 rfl) ?_
          refine lv_icmp_eq (tgt := 49) hx hb dX8_oftenBut_26 (by decide) (fun c26 => ?_) (fun c26 => ?_)
          · refine lv_iconst (v := 0) hx hb dX8_oftenBut_49 (by decide) ?_
            refine lv_iadd hx hb dX8_oftenBut_50 ?_
            refine x_cvi (y := nI (fb_ct (ofP (woN m (bitO bu)) d) (q + 1))) (by exact ct_b0 ha (by unfold ofP; first | (rw [woB_at (by omega) c18]; rfl) | (rw [woB_at (q := q + d) (by omega) c26]; simp))) ?_
            refine lv_istore_n (lv' := [(3, .int (nI (fb_ct (ofP (woN m (bitO bu)) d) (q + 1)))), (0, .ref mo), (1, .int (nI d)), (2, .int bu), (4, .int (nI q))]) hx hb dX8_oftenBut_51 rfl hl (by decide) rfl (fun ls hl => ?_)
            refine lv_iinc (v := nI (q + 1)) (lv' := [(4, .int (nI (q + 1))), (3, .int (nI (fb_ct (ofP (woN m (bitO bu)) d) (q + 1)))), (0, .ref mo), (1, .int (nI d)), (2, .int bu)]) hx hb dX8_oftenBut_52 hl (k := 4) rfl (by exact nI_1 _) (by decide) rfl (fun ls hl => ?_)
            refine lv_goto (tgt := 5) hx hb dX8_oftenBut_55 (by decide) ?_
            exact ih5 (q + 1) (fb_ct (ofP (woN m (bitO bu)) d) (q + 1)) _ _ _ (by omega) (by omega) (rfl) hw (lv_sub hl [2, 3, 4, 1, 0] rfl)
          · refine lv_aload_n hx hb dX8_oftenBut_29 rfl (lv_at hl 0 rfl) ?_
            refine xg X hw (C := RX8) (T := TX8) (N := 27) (by decide +kernel) 0 rfl rfl 0 (by decide) rfl (by decide +kernel) rfl dX8_oftenBut_30 ?_
            refine lv_iload hx hb dX8_oftenBut_33 (lv_at hl 4 rfl) ?_
            refine xia X hw 1 rfl (j := q) (rfl) (by omega) (by decide) dX8_oftenBut_35 ?_
            refine lv_aload_n hx hb dX8_oftenBut_36 rfl (lv_at hl 0 rfl) ?_
            refine xg X hw (C := RX8) (T := TX8) (N := 27) (by decide +kernel) 0 rfl rfl 0 (by decide) rfl (by decide +kernel) rfl dX8_oftenBut_37 ?_
            refine lv_iload hx hb dX8_oftenBut_40 (lv_at hl 4 rfl) ?_
            refine lv_iload_n hx hb dX8_oftenBut_42 rfl (lv_at hl 1 rfl) ?_
            refine lv_iadd hx hb dX8_oftenBut_43 ?_
            refine x_cvi (y := nI (q + d)) (by exact nI_add _ _) ?_
            refine xia X hw 1 rfl (j := (q + d)) (rfl) (by omega) (by decide) dX8_oftenBut_44 ?_
            refine lv_imul hx hb dX8_oftenBut_45 ?_
            refine x_cvi (y := bi (m.testBit q && m.testBit (q + d))) (by exact tB_mul _ _ _) ?_
            refine lv_goto (tgt := 50) hx hb dX8_oftenBut_46 (by decide) ?_
            refine lv_iadd hx hb dX8_oftenBut_50 ?_
            refine x_cvi (y := nI (fb_ct (ofP (woN m (bitO bu)) d) (q + 1))) (by exact ct_bi ha (by unfold ofP; rw [woB_ne c18, woB_ne c26])) ?_
            refine lv_istore_n (lv' := [(3, .int (nI (fb_ct (ofP (woN m (bitO bu)) d) (q + 1)))), (0, .ref mo), (1, .int (nI d)), (2, .int bu), (4, .int (nI q))]) hx hb dX8_oftenBut_51 rfl hl (by decide) rfl (fun ls hl => ?_)
            refine lv_iinc (v := nI (q + 1)) (lv' := [(4, .int (nI (q + 1))), (3, .int (nI (fb_ct (ofP (woN m (bitO bu)) d) (q + 1)))), (0, .ref mo), (1, .int (nI d)), (2, .int bu)]) hx hb dX8_oftenBut_52 hl (k := 4) rfl (by exact nI_1 _) (by decide) rfl (fun ls hl => ?_)
            refine lv_goto (tgt := 5) hx hb dX8_oftenBut_55 (by decide) ?_
            exact ih5 (q + 1) (fb_ct (ofP (woN m (bitO bu)) d) (q + 1)) _ _ _ (by omega) (by omega) (rfl) hw (lv_sub hl [2, 3, 4, 1, 0] rfl)
  exact lp5 _ 0 0 _ _ _ (Nat.lt_succ_self _) (by omega) (rfl) hw (lv_sub hl [2, 3, 4, 1, 0] rfl)

set_option maxHeartbeats 4000000 in
set_option maxRecDepth 100000 in
theorem c_X8_spacing (l : Launch) (G : GG) (mo : Nat) (th : Nat) (ea : Nat) (sa : Nat) (lk : Nat) (lq : Nat) (lz : Nat) (rb : Nat) (rn : Nat) (rt : Nat) (rk : Nat) (cb : Nat) (cm : Nat) (cu : Nat) (ck : Nat) (mk : Nat) (nt : Nat) (kp : Nat) (iq : Nat) (lg : Int32) (un : Int32) (tm : Int32) (kr : Int32) (kc : Int32) (se : Int32) (tr : Int32) (ka : Int32) (wr : Int32) (m : Nat) (x : Int32) (hm : m < 2 ^ 61) : CT l G yX8_spacing wsX8_spacing ({ frames := 1, cells := 0, slots := 0, locals := 25 } : Room) [.ref mo, .int x] [(mo, .inr (5, [.ref th, .ref ea, .ref sa, .ref lk, .ref lq, .ref lz, .int lg, .int un, .int tm, .ref rb, .ref rn, .ref rt, .ref rk, .int kr, .ref cb, .ref cm, .ref cu, .ref ck, .int kc, .int se, .int tr, .ref mk, .ref nt, .ref kp, .ref iq, .int ka, .int wr])), (th, .inl (G.2.1, 61, .inl (tB m)))] (fun r w => r = some (.int (spcR m x)) ∧ w = [(mo, .inr (5, [.ref th, .ref ea, .ref sa, .ref lk, .ref lq, .ref lz, .int lg, .int un, .int tm, .ref rb, .ref rn, .ref rt, .ref rk, .int kr, .ref cb, .ref cm, .ref cu, .ref ck, .int kc, .int se, .int tr, .ref mk, .ref nt, .ref kp, .ref iq, .int ka, .int wr])), (th, .inl (G.2.1, 61, .inl (tB m)))]) 0 0 := by
  refine ct_i (cc := cX8_spacing) (maxL := 2) (by decide +kernel) rfl (Nat.le_of_ble_eq_true rfl) ?_
  intro p e s mt below meth c A Q X hw hret ls hl
  obtain ⟨hx, hb, -⟩ := id X
  have hl : lv_has ls 2 [(0, .ref mo), (1, .int x)] := hl
  refine lv_iload_n hx hb dX8_spacing_0 rfl (lv_at hl 1 rfl) ?_
  refine lv_i2l (v := x.toInt64) hx hb dX8_spacing_1 (by rfl) ?_
  refine lv_lconst (v := 1) hx hb dX8_spacing_2 (by decide) ?_
  refine xc2 X (v := 60) (by decide +kernel) dX8_spacing_3 ?_
  refine xcP (n := 3) (As := [.long x.toInt64, .long 1, .long 60]) (rest := []) X hw (c_X8_in l G x.toInt64 1 60 ) gX8_spacing_X8_in rfl ⟨rfl, rfl⟩ (by decide +kernel) ⟨by decide, by decide⟩ rfl hl.1 rfl (Nat.le_of_ble_eq_true rfl) dX8_spacing_6 ⟨by decide, by decide⟩ (fun r w1 H locs hp hw => ?_)
  obtain rfl := hp
  refine W.eq (g2 := F0 mt 9 ls [.int (bi (inJ x.toInt64 1 60))]) rfl ?_
  refine x_cvi (y := bi (inL x)) (by rw [inJ_L]) ?_
  refine lv_if_eq (tgt := 22) hx hb dX8_spacing_9 (by decide) (fun c9 => ?_) (fun c9 => ?_)
  · have hi := bi_f c9
    refine lv_bipush (v := (-2)) hx hb dX8_spacing_22 (by decide) ?_
    refine hret _ _ _ _ _ _ dX8_spacing_24 hw ?_
    exact ⟨congrArg (fun z => some (Value.int z)) (by unfold spcR; rw [if_neg (by rw [hi]; decide)]), rfl⟩
  · have hi := bi_t c9
    obtain ⟨k, hk1, hk, rfl⟩ := inL_of hi
    refine lv_aload_n hx hb dX8_spacing_12 rfl (lv_at hl 0 rfl) ?_
    refine lv_iload_n hx hb dX8_spacing_13 rfl (lv_at hl 1 rfl) ?_
    refine lv_bipush (v := (-6)) hx hb dX8_spacing_14 (by decide) ?_
    refine xcV (n := 2) (As := [.int (nI k), .int (-6)]) (rest := []) (wc := [(mo, .inr (5, [.ref th, .ref ea, .ref sa, .ref lk, .ref lq, .ref lz, .int lg, .int un, .int tm, .ref rb, .ref rn, .ref rt, .ref rk, .int kr, .ref cb, .ref cm, .ref cu, .ref ck, .int kc, .int se, .int tr, .ref mk, .ref nt, .ref kp, .ref iq, .int ka, .int wr])), (th, .inl (G.2.1, 61, .inl (tB m)))]) (wr := []) X hw (c_X8_oftenBut l G mo th ea sa lk lq lz rb rn rt rk cb cm cu ck mk nt kp iq lg un tm kr kc se tr ka wr m k (-6) hm hk1 hk) (C := RX8) gX8_spacing_X8_oftenBut (q0 := 0) rfl rfl rfl ⟨rfl, rfl⟩ (by decide +kernel) ⟨by decide, by decide⟩ rfl hl.1 rfl (Nat.le_of_ble_eq_true rfl) dX8_spacing_16 ⟨by decide, by decide⟩ [0, 1] [] rfl rfl rfl rfl (by decide) (fun r w1 H locs hp hw => ?_)
    obtain ⟨rfl, rfl⟩ := hp
    have hw := hw.sub (ws' := [(mo, .inr (5, [.ref th, .ref ea, .ref sa, .ref lk, .ref lq, .ref lz, .int lg, .int un, .int tm, .ref rb, .ref rn, .ref rt, .ref rk, .int kr, .ref cb, .ref cm, .ref cu, .ref ck, .int kc, .int se, .int tr, .ref mk, .ref nt, .ref kp, .ref iq, .int ka, .int wr])), (th, .inl (G.2.1, 61, .inl (tB m)))]) [0, 1] rfl rfl
    refine W.eq (g2 := F0 mt 19 ls [.int (nI (ofN (woN m (bitO (-6))) k))]) rfl ?_
    refine x_cvi (y := nI (ofN m k)) (by rw [wo_6]) ?_
    refine lv_goto (tgt := 24) hx hb dX8_spacing_19 (by decide) ?_
    refine hret _ _ _ _ _ _ dX8_spacing_24 hw ?_
    exact ⟨congrArg (fun z => some (Value.int z)) (by unfold spcR; rw [if_pos hi, ofX_nI hk1 hk]), rfl⟩

set_option maxHeartbeats 4000000 in
set_option maxRecDepth 100000 in
theorem c_X8_span (l : Launch) (G : GG) (mo : Nat) (th : Nat) (ea : Nat) (sa : Nat) (lk : Nat) (lq : Nat) (lz : Nat) (rb : Nat) (rn : Nat) (rt : Nat) (rk : Nat) (cb : Nat) (cm : Nat) (cu : Nat) (ck : Nat) (mk : Nat) (nt : Nat) (kp : Nat) (iq : Nat) (lg : Int32) (un : Int32) (tm : Int32) (kr : Int32) (kc : Int32) (se : Int32) (tr : Int32) (ka : Int32) (wr : Int32) (m : Nat) (hm : m < 2 ^ 61) : CT l G yX8_span wsX8_span ({ frames := 1, cells := 0, slots := 0, locals := 24 } : Room) [.ref mo] [(mo, .inr (5, [.ref th, .ref ea, .ref sa, .ref lk, .ref lq, .ref lz, .int lg, .int un, .int tm, .ref rb, .ref rn, .ref rt, .ref rk, .int kr, .ref cb, .ref cm, .ref cu, .ref ck, .int kc, .int se, .int tr, .ref mk, .ref nt, .ref kp, .ref iq, .int ka, .int wr])), (th, .inl (G.2.1, 61, .inl (tB m)))] (fun r w => r = some (.int (nI (spN m))) ∧ w = [(mo, .inr (5, [.ref th, .ref ea, .ref sa, .ref lk, .ref lq, .ref lz, .int lg, .int un, .int tm, .ref rb, .ref rn, .ref rt, .ref rk, .int kr, .ref cb, .ref cm, .ref cu, .ref ck, .int kc, .int se, .int tr, .ref mk, .ref nt, .ref kp, .ref iq, .int ka, .int wr])), (th, .inl (G.2.1, 61, .inl (tB m)))]) 0 0 := by
  refine ct_i (cc := cX8_span) (maxL := 3) (by decide +kernel) rfl (Nat.le_of_ble_eq_true rfl) ?_
  intro p e s mt below meth c A Q X hw hret ls hl
  obtain ⟨hx, hb, -⟩ := id X
  have hl : lv_has ls 3 [(0, .ref mo)] := hl
  refine lv_iconst (v := 0) hx hb dX8_span_0 (by decide) ?_
  refine x_cvi (y := nI 0) (by rfl) ?_
  refine lv_istore_n (lv' := [(1, .int (nI 0)), (0, .ref mo)]) hx hb dX8_span_1 rfl hl (by decide) rfl (fun ls hl => ?_)
  refine lv_iconst (v := 1) hx hb dX8_span_2 (by decide) ?_
  refine x_cvi (y := nI 1) (by rfl) ?_
  refine lv_istore_n (lv' := [(2, .int (nI 1)), (1, .int (nI 0)), (0, .ref mo)]) hx hb dX8_span_3 rfl hl (by decide) rfl (fun ls hl => ?_)
  have lp4 : ∀ (fu : Nat) (q : Nat) (a : Nat) (H : Heap) (locs : List Loc) (ls : Array Slot), 61 - q < fu → (1 ≤ q ∧ q ≤ 61) → (spF m (q - 1) = a) → WS G A s.heap H locs [(mo, .inr (5, [.ref th, .ref ea, .ref sa, .ref lk, .ref lq, .ref lz, .int lg, .int un, .int tm, .ref rb, .ref rn, .ref rt, .ref rk, .int kr, .ref cb, .ref cm, .ref cu, .ref ck, .int kc, .int se, .int tr, .ref mk, .ref nt, .ref kp, .ref iq, .int ka, .int wr])), (th, .inl (G.2.1, 61, .inl (tB m)))] → lv_has ls 3 [(0, .ref mo), (1, .int (nI a)), (2, .int (nI q))] → W p l e ({ frames := 1, cells := 0, slots := 0, locals := 24 } : Room) s mt ([.ref mo] : List Value).toArray below meth c H locs 0 0 Q (F0 mt 4 ls []) := by
    intro fu
    induction fu with
    | zero =>
      intro q a H locs ls hmu
      exact absurd hmu (Nat.not_lt_zero _)
    | succ fu ih4 =>
      intro q a H locs ls hmu4 hq ha hw hl
      refine lv_iload_n hx hb dX8_span_4 rfl (lv_at hl 2 rfl) ?_
      refine lv_bipush (v := 60) hx hb dX8_span_5 (by decide) ?_
      refine lv_icmp_gt (tgt := 32) hx hb dX8_span_7 (by decide) (fun c7 => ?_) (fun c7 => ?_)
      · have hk2 : 60 < q := i_lt (by decide) (by omega) c7
        refine lv_iload_n hx hb dX8_span_32 rfl (lv_at hl 1 rfl) ?_
        refine hret _ _ _ _ _ _ dX8_span_33 hw ?_
        exact ⟨congrArg (fun z => some (Value.int z)) (by rw [← ha, show q - 1 = 60 by omega]; rfl), rfl⟩
      · have hk2 : q ≤ 60 := i_nlt (by decide) (by omega) c7
        refine lv_aload_n hx hb dX8_span_10 rfl (lv_at hl 0 rfl) ?_
        refine lv_iload_n hx hb dX8_span_11 rfl (lv_at hl 2 rfl) ?_
        refine lv_bipush (v := (-6)) hx hb dX8_span_12 (by decide) ?_
        refine xcV (n := 2) (As := [.int (nI q), .int (-6)]) (rest := []) (wc := [(mo, .inr (5, [.ref th, .ref ea, .ref sa, .ref lk, .ref lq, .ref lz, .int lg, .int un, .int tm, .ref rb, .ref rn, .ref rt, .ref rk, .int kr, .ref cb, .ref cm, .ref cu, .ref ck, .int kc, .int se, .int tr, .ref mk, .ref nt, .ref kp, .ref iq, .int ka, .int wr])), (th, .inl (G.2.1, 61, .inl (tB m)))]) (wr := []) X hw (c_X8_oftenBut l G mo th ea sa lk lq lz rb rn rt rk cb cm cu ck mk nt kp iq lg un tm kr kc se tr ka wr m q (-6) hm (by omega) (by omega)) (C := RX8) gX8_span_X8_oftenBut (q0 := 0) rfl rfl rfl ⟨rfl, rfl⟩ (by decide +kernel) ⟨by decide, by decide⟩ rfl hl.1 rfl (Nat.le_of_ble_eq_true rfl) dX8_span_14 ⟨by decide, by decide⟩ [0, 1] [] rfl rfl rfl rfl (by decide) (fun r w1 H locs hp hw => ?_)
        obtain ⟨rfl, rfl⟩ := hp
        have hw := hw.sub (ws' := [(mo, .inr (5, [.ref th, .ref ea, .ref sa, .ref lk, .ref lq, .ref lz, .int lg, .int un, .int tm, .ref rb, .ref rn, .ref rt, .ref rk, .int kr, .ref cb, .ref cm, .ref cu, .ref ck, .int kc, .int se, .int tr, .ref mk, .ref nt, .ref kp, .ref iq, .int ka, .int wr])), (th, .inl (G.2.1, 61, .inl (tB m)))]) [0, 1] rfl rfl
        refine W.eq (g2 := F0 mt 17 ls [.int (nI (ofN (woN m (bitO (-6))) q))]) rfl ?_
        refine x_cvi (y := nI (ofN m q)) (by rw [wo_6]) ?_
        refine lv_if_le (tgt := 24) hx hb dX8_span_17 (by decide) (fun c17 => ?_) (fun c17 => ?_)
        · have hz : ofN m q = 0 := by have := i_le (b := 0) (Nat.lt_of_le_of_lt (ofN_le _ _) (by decide)) (by decide) c17; omega
          refine lv_iload_n hx hb dX8_span_24 rfl (lv_at hl 1 rfl) ?_
          refine lv_istore_n (lv' := [(1, .int (nI a)), (0, .ref mo), (2, .int (nI q))]) hx hb dX8_span_25 rfl hl (by decide) rfl (fun ls hl => ?_)
          refine lv_iinc (v := nI (q + 1)) (lv' := [(2, .int (nI (q + 1))), (1, .int (nI a)), (0, .ref mo)]) hx hb dX8_span_26 hl (k := 2) rfl (by exact nI_1 _) (by decide) rfl (fun ls hl => ?_)
          refine lv_goto (tgt := 4) hx hb dX8_span_29 (by decide) ?_
          exact ih4 (q + 1) a _ _ _ (by omega) (by omega) (by rw [spF_z (by omega) hz]; exact ha) hw (lv_sub hl [2, 1, 0] rfl)
        · have hz : 0 < ofN m q := i_nle (b := 0) (Nat.lt_of_le_of_lt (ofN_le _ _) (by decide)) (by decide) c17
          refine lv_iload_n hx hb dX8_span_20 rfl (lv_at hl 2 rfl) ?_
          refine lv_goto (tgt := 25) hx hb dX8_span_21 (by decide) ?_
          refine lv_istore_n (lv' := [(1, .int (nI q)), (0, .ref mo), (2, .int (nI q))]) hx hb dX8_span_25 rfl hl (by decide) rfl (fun ls hl => ?_)
          refine lv_iinc (v := nI (q + 1)) (lv' := [(2, .int (nI (q + 1))), (1, .int (nI q)), (0, .ref mo)]) hx hb dX8_span_26 hl (k := 2) rfl (by exact nI_1 _) (by decide) rfl (fun ls hl => ?_)
          refine lv_goto (tgt := 4) hx hb dX8_span_29 (by decide) ?_
          exact ih4 (q + 1) q _ _ _ (by omega) (by omega) (spF_n (by omega) (by omega)) hw (lv_sub hl [2, 1, 0] rfl)
  exact lp4 _ 1 0 _ _ _ (Nat.lt_succ_self _) (by decide) (rfl) hw (lv_sub hl [2, 1, 0] rfl)

set_option maxHeartbeats 4000000 in
set_option maxRecDepth 100000 in
theorem c_X8_reachBut (l : Launch) (G : GG) (mo : Nat) (th : Nat) (ea : Nat) (sa : Nat) (lk : Nat) (lq : Nat) (lz : Nat) (rb : Nat) (rn : Nat) (rt : Nat) (rk : Nat) (cb : Nat) (cm : Nat) (cu : Nat) (ck : Nat) (mk : Nat) (nt : Nat) (kp : Nat) (iq : Nat) (lg : Int32) (un : Int32) (tm : Int32) (kr : Int32) (kc : Int32) (se : Int32) (tr : Int32) (ka : Int32) (wr : Int32) (m : Nat) (bu : Int32) (hm : m < 2 ^ 61) : CT l G yX8_reachBut wsX8_reachBut ({ frames := 1, cells := 0, slots := 0, locals := 24 } : Room) [.ref mo, .int bu] [(mo, .inr (5, [.ref th, .ref ea, .ref sa, .ref lk, .ref lq, .ref lz, .int lg, .int un, .int tm, .ref rb, .ref rn, .ref rt, .ref rk, .int kr, .ref cb, .ref cm, .ref cu, .ref ck, .int kc, .int se, .int tr, .ref mk, .ref nt, .ref kp, .ref iq, .int ka, .int wr])), (th, .inl (G.2.1, 61, .inl (tB m)))] (fun r w => r = some (.int (nI (reN (woN m (bitO bu))))) ∧ w = [(mo, .inr (5, [.ref th, .ref ea, .ref sa, .ref lk, .ref lq, .ref lz, .int lg, .int un, .int tm, .ref rb, .ref rn, .ref rt, .ref rk, .int kr, .ref cb, .ref cm, .ref cu, .ref ck, .int kc, .int se, .int tr, .ref mk, .ref nt, .ref kp, .ref iq, .int ka, .int wr])), (th, .inl (G.2.1, 61, .inl (tB m)))]) 0 0 := by
  refine ct_i (cc := cX8_reachBut) (maxL := 3) (by decide +kernel) rfl (Nat.le_of_ble_eq_true rfl) ?_
  intro p e s mt below meth c A Q X hw hret ls hl
  obtain ⟨hx, hb, -⟩ := id X
  have hl : lv_has ls 3 [(0, .ref mo), (1, .int bu)] := hl
  refine lv_iconst (v := 0) hx hb dX8_reachBut_0 (by decide) ?_
  refine x_cvi (y := nI 0) (by rfl) ?_
  refine lv_istore_n (lv' := [(2, .int (nI 0)), (0, .ref mo), (1, .int bu)]) hx hb dX8_reachBut_1 rfl hl (by decide) rfl (fun ls hl => ?_)
  have lp2 : ∀ (fu : Nat) (q : Nat) (H : Heap) (locs : List Loc) (ls : Array Slot), 61 - q < fu → (q ≤ 60) → (reF (woN m (bitO bu)) (60 - q) (q + 1) = reN (woN m (bitO bu))) → WS G A s.heap H locs [(mo, .inr (5, [.ref th, .ref ea, .ref sa, .ref lk, .ref lq, .ref lz, .int lg, .int un, .int tm, .ref rb, .ref rn, .ref rt, .ref rk, .int kr, .ref cb, .ref cm, .ref cu, .ref ck, .int kc, .int se, .int tr, .ref mk, .ref nt, .ref kp, .ref iq, .int ka, .int wr])), (th, .inl (G.2.1, 61, .inl (tB m)))] → lv_has ls 3 [(0, .ref mo), (1, .int bu), (2, .int (nI q))] → W p l e ({ frames := 1, cells := 0, slots := 0, locals := 24 } : Room) s mt ([.ref mo, .int bu] : List Value).toArray below meth c H locs 0 0 Q (F0 mt 2 ls []) := by
    intro fu
    induction fu with
    | zero =>
      intro q H locs ls hmu
      exact absurd hmu (Nat.not_lt_zero _)
    | succ fu ih2 =>
      intro q H locs ls hmu2 hq hR hw hl
      refine lv_iload_n hx hb dX8_reachBut_2 rfl (lv_at hl 2 rfl) ?_
      refine lv_bipush (v := 60) hx hb dX8_reachBut_3 (by decide) ?_
      refine lv_icmp_ge (tgt := 25) hx hb dX8_reachBut_5 (by decide) (fun c5 => ?_) (fun c5 => ?_)
      · have hk2 : 60 ≤ q := i_le (a := 60) (by decide) (by omega) c5
        refine lv_iload_n hx hb dX8_reachBut_25 rfl (lv_at hl 2 rfl) ?_
        refine hret _ _ _ _ _ _ dX8_reachBut_26 hw ?_
        exact ⟨congrArg (fun z => some (Value.int z)) (by first | (rw [show 60 - q = 0 by omega] at hR; rw [← hR, show q = 60 by omega]; rfl) | (rw [show 60 - q = (60 - (q + 1)) + 1 by omega, reF_s, if_pos hz] at hR; rw [← hR]; rfl)), rfl⟩
      · have hk2 : q < 60 := i_nle (a := 60) (by decide) (by omega) c5
        refine lv_aload_n hx hb dX8_reachBut_8 rfl (lv_at hl 0 rfl) ?_
        refine lv_iload_n hx hb dX8_reachBut_9 rfl (lv_at hl 2 rfl) ?_
        refine lv_iconst (v := 1) hx hb dX8_reachBut_10 (by decide) ?_
        refine lv_iadd hx hb dX8_reachBut_11 ?_
        refine x_cvi (y := nI (q + 1)) (by exact nI_1 _) ?_
        refine lv_iload_n hx hb dX8_reachBut_12 rfl (lv_at hl 1 rfl) ?_
        refine xcV (n := 2) (As := [.int (nI (q + 1)), .int bu]) (rest := []) (wc := [(mo, .inr (5, [.ref th, .ref ea, .ref sa, .ref lk, .ref lq, .ref lz, .int lg, .int un, .int tm, .ref rb, .ref rn, .ref rt, .ref rk, .int kr, .ref cb, .ref cm, .ref cu, .ref ck, .int kc, .int se, .int tr, .ref mk, .ref nt, .ref kp, .ref iq, .int ka, .int wr])), (th, .inl (G.2.1, 61, .inl (tB m)))]) (wr := []) X hw (c_X8_oftenBut l G mo th ea sa lk lq lz rb rn rt rk cb cm cu ck mk nt kp iq lg un tm kr kc se tr ka wr m (q + 1) bu hm (by omega) (by omega)) (C := RX8) gX8_reachBut_X8_oftenBut (q0 := 0) rfl rfl rfl ⟨rfl, rfl⟩ (by decide +kernel) ⟨by decide, by decide⟩ rfl hl.1 rfl (Nat.le_of_ble_eq_true rfl) dX8_reachBut_13 ⟨by decide, by decide⟩ [0, 1] [] rfl rfl rfl rfl (by decide) (fun r w1 H locs hp hw => ?_)
        obtain ⟨rfl, rfl⟩ := hp
        have hw := hw.sub (ws' := [(mo, .inr (5, [.ref th, .ref ea, .ref sa, .ref lk, .ref lq, .ref lz, .int lg, .int un, .int tm, .ref rb, .ref rn, .ref rt, .ref rk, .int kr, .ref cb, .ref cm, .ref cu, .ref ck, .int kc, .int se, .int tr, .ref mk, .ref nt, .ref kp, .ref iq, .int ka, .int wr])), (th, .inl (G.2.1, 61, .inl (tB m)))]) [0, 1] rfl rfl
        refine W.eq (g2 := F0 mt 16 ls [.int (nI (ofN (woN m (bitO bu)) (q + 1)))]) rfl ?_
        refine lv_if_le (tgt := 25) hx hb dX8_reachBut_16 (by decide) (fun c16 => ?_) (fun c16 => ?_)
        · have hz : ofN (woN m (bitO bu)) (q + 1) = 0 := by have := i_le (b := 0) (Nat.lt_of_le_of_lt (ofN_le _ _) (by decide)) (by decide) c16; omega
          refine lv_iload_n hx hb dX8_reachBut_25 rfl (lv_at hl 2 rfl) ?_
          refine hret _ _ _ _ _ _ dX8_reachBut_26 hw ?_
          exact ⟨congrArg (fun z => some (Value.int z)) (by first | (rw [show 60 - q = 0 by omega] at hR; rw [← hR, show q = 60 by omega]; rfl) | (rw [show 60 - q = (60 - (q + 1)) + 1 by omega, reF_s, if_pos hz] at hR; rw [← hR]; rfl)), rfl⟩
        · have hz : 0 < ofN (woN m (bitO bu)) (q + 1) := i_nle (b := 0) (Nat.lt_of_le_of_lt (ofN_le _ _) (by decide)) (by decide) c16
          refine lv_iinc (v := nI (q + 1)) (lv' := [(2, .int (nI (q + 1))), (0, .ref mo), (1, .int bu)]) hx hb dX8_reachBut_19 hl (k := 2) rfl (by exact nI_1 _) (by decide) rfl (fun ls hl => ?_)
          refine lv_goto (tgt := 2) hx hb dX8_reachBut_22 (by decide) ?_
          exact ih2 (q + 1) _ _ _ (by omega) (by omega) (by rw [show 60 - q = (60 - (q + 1)) + 1 by omega, reF_s, if_neg (by omega)] at hR; exact hR) hw (lv_sub hl [1, 2, 0] rfl)
  exact lp2 _ 0 _ _ _ (Nat.lt_succ_self _) (by decide) (rfl) hw (lv_sub hl [1, 2, 0] rfl)

set_option maxHeartbeats 4000000 in
set_option maxRecDepth 100000 in
theorem c_X8_missing (l : Launch) (G : GG) (mo : Nat) (th : Nat) (ea : Nat) (sa : Nat) (lk : Nat) (lq : Nat) (lz : Nat) (rb : Nat) (rn : Nat) (rt : Nat) (rk : Nat) (cb : Nat) (cm : Nat) (cu : Nat) (ck : Nat) (mk : Nat) (nt : Nat) (kp : Nat) (iq : Nat) (lg : Int32) (un : Int32) (tm : Int32) (kr : Int32) (kc : Int32) (se : Int32) (tr : Int32) (ka : Int32) (wr : Int32) (m : Nat) (hm : m < 2 ^ 61) : CT l G yX8_missing wsX8_missing ({ frames := 2, cells := 0, slots := 0, locals := 46 } : Room) [.ref mo] [(mo, .inr (5, [.ref th, .ref ea, .ref sa, .ref lk, .ref lq, .ref lz, .int lg, .int un, .int tm, .ref rb, .ref rn, .ref rt, .ref rk, .int kr, .ref cb, .ref cm, .ref cu, .ref ck, .int kc, .int se, .int tr, .ref mk, .ref nt, .ref kp, .ref iq, .int ka, .int wr])), (th, .inl (G.2.1, 61, .inl (tB m)))] (fun r w => r = some (.int (nI (lkN m))) ∧ w = [(mo, .inr (5, [.ref th, .ref ea, .ref sa, .ref lk, .ref lq, .ref lz, .int lg, .int un, .int tm, .ref rb, .ref rn, .ref rt, .ref rk, .int kr, .ref cb, .ref cm, .ref cu, .ref ck, .int kc, .int se, .int tr, .ref mk, .ref nt, .ref kp, .ref iq, .int ka, .int wr])), (th, .inl (G.2.1, 61, .inl (tB m)))]) 0 0 := by
  refine ct_i (cc := cX8_missing) (maxL := 3) (by decide +kernel) rfl (Nat.le_of_ble_eq_true rfl) ?_
  intro p e s mt below meth c A Q X hw hret ls hl
  obtain ⟨hx, hb, -⟩ := id X
  have hl : lv_has ls 3 [(0, .ref mo)] := hl
  refine lv_iconst (v := 0) hx hb dX8_missing_0 (by decide) ?_
  refine x_cvi (y := nI 0) (by rfl) ?_
  refine lv_istore_n (lv' := [(1, .int (nI 0)), (0, .ref mo)]) hx hb dX8_missing_1 rfl hl (by decide) rfl (fun ls hl => ?_)
  refine lv_aload_n hx hb dX8_missing_2 rfl (lv_at hl 1 rfl) ?_
  refine xcV (n := 0) (As := []) (rest := []) (wc := [(mo, .inr (5, [.ref th, .ref ea, .ref sa, .ref lk, .ref lq, .ref lz, .int lg, .int un, .int tm, .ref rb, .ref rn, .ref rt, .ref rk, .int kr, .ref cb, .ref cm, .ref cu, .ref ck, .int kc, .int se, .int tr, .ref mk, .ref nt, .ref kp, .ref iq, .int ka, .int wr])), (th, .inl (G.2.1, 61, .inl (tB m)))]) (wr := []) X hw (c_X8_span l G mo th ea sa lk lq lz rb rn rt rk cb cm cu ck mk nt kp iq lg un tm kr kc se tr ka wr m hm) (C := RX8) gX8_missing_X8_span (q0 := 0) rfl rfl rfl ⟨rfl, rfl⟩ (by decide +kernel) ⟨by decide, by decide⟩ rfl hl.1 rfl (Nat.le_of_ble_eq_true rfl) dX8_missing_3 ⟨by decide, by decide⟩ [0, 1] [] rfl rfl rfl rfl (by decide) (fun r w1 H locs hp hw => ?_)
  obtain ⟨rfl, rfl⟩ := hp
  have hw := hw.sub (ws' := [(mo, .inr (5, [.ref th, .ref ea, .ref sa, .ref lk, .ref lq, .ref lz, .int lg, .int un, .int tm, .ref rb, .ref rn, .ref rt, .ref rk, .int kr, .ref cb, .ref cm, .ref cu, .ref ck, .int kc, .int se, .int tr, .ref mk, .ref nt, .ref kp, .ref iq, .int ka, .int wr])), (th, .inl (G.2.1, 61, .inl (tB m)))]) [0, 1] rfl rfl
  refine W.eq (g2 := F0 mt 6 ls [.int (nI (spN m))]) rfl ?_
  refine lv_istore_n (lv' := [(2, .int (nI (spN m))), (1, .int (nI 0)), (0, .ref mo)]) hx hb dX8_missing_6 rfl hl (by decide) rfl (fun ls hl => ?_)
  have lp7 : ∀ (fu : Nat) (q : Nat) (a : Nat) (H : Heap) (locs : List Loc) (ls : Array Slot), q < fu → (q ≤ 60) → (a + fb_ct (lkP m) q = lkN m) → WS G A s.heap H locs [(mo, .inr (5, [.ref th, .ref ea, .ref sa, .ref lk, .ref lq, .ref lz, .int lg, .int un, .int tm, .ref rb, .ref rn, .ref rt, .ref rk, .int kr, .ref cb, .ref cm, .ref cu, .ref ck, .int kc, .int se, .int tr, .ref mk, .ref nt, .ref kp, .ref iq, .int ka, .int wr])), (th, .inl (G.2.1, 61, .inl (tB m)))] → lv_has ls 3 [(0, .ref mo), (1, .int (nI a)), (2, .int (nI q))] → W p l e ({ frames := 2, cells := 0, slots := 0, locals := 46 } : Room) s mt ([.ref mo] : List Value).toArray below meth c H locs 0 0 Q (F0 mt 7 ls []) := by
    intro fu
    induction fu with
    | zero =>
      intro q a H locs ls hmu
      exact absurd hmu (Nat.not_lt_zero _)
    | succ fu ih7 =>
      intro q a H locs ls hmu7 hq ha hw hl
      refine lv_iload_n hx hb dX8_missing_7 rfl (lv_at hl 2 rfl) ?_
      refine lv_if_le (tgt := 35) hx hb dX8_missing_8 (by decide) (fun c8 => ?_) (fun c8 => ?_)
      · have hk2 : q = 0 := by have := i_le (b := 0) (by omega) (by decide) c8; omega
        refine lv_iload_n hx hb dX8_missing_35 rfl (lv_at hl 1 rfl) ?_
        refine hret _ _ _ _ _ _ dX8_missing_36 hw ?_
        exact ⟨congrArg (fun z => some (Value.int z)) (by rw [← ha, hk2]; rfl), rfl⟩
      · have hk2 : 0 < q := i_nle (b := 0) (by omega) (by decide) c8
        refine lv_iload_n hx hb dX8_missing_11 rfl (lv_at hl 1 rfl) ?_
        refine lv_aload_n hx hb dX8_missing_12 rfl (lv_at hl 0 rfl) ?_
        refine lv_iload_n hx hb dX8_missing_13 rfl (lv_at hl 2 rfl) ?_
        refine lv_bipush (v := (-6)) hx hb dX8_missing_14 (by decide) ?_
        refine xcV (n := 2) (As := [.int (nI q), .int (-6)]) (rest := [.int (nI a)]) (wc := [(mo, .inr (5, [.ref th, .ref ea, .ref sa, .ref lk, .ref lq, .ref lz, .int lg, .int un, .int tm, .ref rb, .ref rn, .ref rt, .ref rk, .int kr, .ref cb, .ref cm, .ref cu, .ref ck, .int kc, .int se, .int tr, .ref mk, .ref nt, .ref kp, .ref iq, .int ka, .int wr])), (th, .inl (G.2.1, 61, .inl (tB m)))]) (wr := []) X hw (c_X8_oftenBut l G mo th ea sa lk lq lz rb rn rt rk cb cm cu ck mk nt kp iq lg un tm kr kc se tr ka wr m q (-6) hm (by omega) (by omega)) (C := RX8) gX8_missing_X8_oftenBut (q0 := 0) rfl rfl rfl ⟨rfl, rfl⟩ (by decide +kernel) ⟨by decide, by decide⟩ rfl hl.1 rfl (Nat.le_of_ble_eq_true rfl) dX8_missing_16 ⟨by decide, by decide⟩ [0, 1] [] rfl rfl rfl rfl (by decide) (fun r w1 H locs hp hw => ?_)
        obtain ⟨rfl, rfl⟩ := hp
        have hw := hw.sub (ws' := [(mo, .inr (5, [.ref th, .ref ea, .ref sa, .ref lk, .ref lq, .ref lz, .int lg, .int un, .int tm, .ref rb, .ref rn, .ref rt, .ref rk, .int kr, .ref cb, .ref cm, .ref cu, .ref ck, .int kc, .int se, .int tr, .ref mk, .ref nt, .ref kp, .ref iq, .int ka, .int wr])), (th, .inl (G.2.1, 61, .inl (tB m)))]) [0, 1] rfl rfl
        refine W.eq (g2 := F0 mt 19 ls [.int (nI (ofN (woN m (bitO (-6))) q)), .int (nI a)]) rfl ?_
        refine x_cvi (y := nI (ofN m q)) (by rw [wo_6]) ?_
        refine lv_if_ne (tgt := 26) hx hb dX8_missing_19 (by decide) (fun c19 => ?_) (fun c19 => ?_)
        · have hz : ofN m q ≠ 0 := fun z => c19 (by rw [z]; rfl)
          refine lv_iconst (v := 0) hx hb dX8_missing_26 (by decide) ?_
          refine lv_iadd hx hb dX8_missing_27 ?_
          refine x_cvi (y := nI a) (by exact nI_z _) ?_
          refine lv_istore_n (lv' := [(1, .int (nI a)), (0, .ref mo), (2, .int (nI q))]) hx hb dX8_missing_28 rfl hl (by decide) rfl (fun ls hl => ?_)
          refine lv_iinc (v := nI (q - 1)) (lv' := [(2, .int (nI (q - 1))), (1, .int (nI a)), (0, .ref mo)]) hx hb dX8_missing_29 hl (k := 2) rfl (by exact nI_dec (by omega)) (by decide) rfl (fun ls hl => ?_)
          refine lv_goto (tgt := 7) hx hb dX8_missing_32 (by decide) ?_
          exact ih7 (q - 1) a _ _ _ (by omega) (by omega) (by rw [lk_step (by omega)] at ha; simp only [hz, if_true, if_false] at ha; omega) hw (lv_sub hl [2, 1, 0] rfl)
        · have hz : ofN m q = 0 := i_eq (b := 0) (Nat.lt_of_le_of_lt (ofN_le _ _) (by decide)) (by decide) c19
          refine lv_iconst (v := 1) hx hb dX8_missing_22 (by decide) ?_
          refine lv_goto (tgt := 27) hx hb dX8_missing_23 (by decide) ?_
          refine lv_iadd hx hb dX8_missing_27 ?_
          refine x_cvi (y := nI (a + 1)) (by exact nI_1 _) ?_
          refine lv_istore_n (lv' := [(1, .int (nI (a + 1))), (0, .ref mo), (2, .int (nI q))]) hx hb dX8_missing_28 rfl hl (by decide) rfl (fun ls hl => ?_)
          refine lv_iinc (v := nI (q - 1)) (lv' := [(2, .int (nI (q - 1))), (1, .int (nI (a + 1))), (0, .ref mo)]) hx hb dX8_missing_29 hl (k := 2) rfl (by exact nI_dec (by omega)) (by decide) rfl (fun ls hl => ?_)
          refine lv_goto (tgt := 7) hx hb dX8_missing_32 (by decide) ?_
          exact ih7 (q - 1) (a + 1) _ _ _ (by omega) (by omega) (by rw [lk_step (by omega)] at ha; simp only [hz, if_true, if_false] at ha; omega) hw (lv_sub hl [2, 1, 0] rfl)
  exact lp7 _ (spN m) 0 _ _ _ (Nat.lt_succ_self _) (spN_le m) (by rw [Nat.zero_add]; rfl) hw (lv_sub hl [2, 1, 0] rfl)

set_option maxHeartbeats 4000000 in
set_option maxRecDepth 100000 in
theorem c_X8_repeats (l : Launch) (G : GG) (mo : Nat) (th : Nat) (ea : Nat) (sa : Nat) (lk : Nat) (lq : Nat) (lz : Nat) (rb : Nat) (rn : Nat) (rt : Nat) (rk : Nat) (cb : Nat) (cm : Nat) (cu : Nat) (ck : Nat) (mk : Nat) (nt : Nat) (kp : Nat) (iq : Nat) (lg : Int32) (un : Int32) (tm : Int32) (kr : Int32) (kc : Int32) (se : Int32) (tr : Int32) (ka : Int32) (wr : Int32) (m : Nat) (hm : m < 2 ^ 61) : CT l G yX8_repeats wsX8_repeats ({ frames := 1, cells := 0, slots := 0, locals := 24 } : Room) [.ref mo] [(mo, .inr (5, [.ref th, .ref ea, .ref sa, .ref lk, .ref lq, .ref lz, .int lg, .int un, .int tm, .ref rb, .ref rn, .ref rt, .ref rk, .int kr, .ref cb, .ref cm, .ref cu, .ref ck, .int kc, .int se, .int tr, .ref mk, .ref nt, .ref kp, .ref iq, .int ka, .int wr])), (th, .inl (G.2.1, 61, .inl (tB m)))] (fun r w => r = some (.int (nI (rpN m))) ∧ w = [(mo, .inr (5, [.ref th, .ref ea, .ref sa, .ref lk, .ref lq, .ref lz, .int lg, .int un, .int tm, .ref rb, .ref rn, .ref rt, .ref rk, .int kr, .ref cb, .ref cm, .ref cu, .ref ck, .int kc, .int se, .int tr, .ref mk, .ref nt, .ref kp, .ref iq, .int ka, .int wr])), (th, .inl (G.2.1, 61, .inl (tB m)))]) 0 0 := by
  refine ct_i (cc := cX8_repeats) (maxL := 4) (by decide +kernel) rfl (Nat.le_of_ble_eq_true rfl) ?_
  intro p e s mt below meth c A Q X hw hret ls hl
  obtain ⟨hx, hb, -⟩ := id X
  have hl : lv_has ls 4 [(0, .ref mo)] := hl
  refine lv_iconst (v := 0) hx hb dX8_repeats_0 (by decide) ?_
  refine x_cvi (y := nI 0) (by rfl) ?_
  refine lv_istore_n (lv' := [(1, .int (nI 0)), (0, .ref mo)]) hx hb dX8_repeats_1 rfl hl (by decide) rfl (fun ls hl => ?_)
  refine lv_iconst (v := 1) hx hb dX8_repeats_2 (by decide) ?_
  refine x_cvi (y := nI 1) (by rfl) ?_
  refine lv_istore_n (lv' := [(2, .int (nI 1)), (1, .int (nI 0)), (0, .ref mo)]) hx hb dX8_repeats_3 rfl hl (by decide) rfl (fun ls hl => ?_)
  have lp4 : ∀ (fu : Nat) (q : Nat) (a : Nat) (H : Heap) (locs : List Loc) (ls : Array Slot), 61 - q < fu → (1 ≤ q ∧ q ≤ 61) → (a = fb_sm (rpP m) (q - 1)) → WS G A s.heap H locs [(mo, .inr (5, [.ref th, .ref ea, .ref sa, .ref lk, .ref lq, .ref lz, .int lg, .int un, .int tm, .ref rb, .ref rn, .ref rt, .ref rk, .int kr, .ref cb, .ref cm, .ref cu, .ref ck, .int kc, .int se, .int tr, .ref mk, .ref nt, .ref kp, .ref iq, .int ka, .int wr])), (th, .inl (G.2.1, 61, .inl (tB m)))] → lv_has ls 4 [(0, .ref mo), (1, .int (nI a)), (2, .int (nI q))] → W p l e ({ frames := 1, cells := 0, slots := 0, locals := 24 } : Room) s mt ([.ref mo] : List Value).toArray below meth c H locs 0 0 Q (F0 mt 4 ls []) := by
    intro fu
    induction fu with
    | zero =>
      intro q a H locs ls hmu
      exact absurd hmu (Nat.not_lt_zero _)
    | succ fu ih4 =>
      intro q a H locs ls hmu4 hq ha hw hl
      refine lv_iload_n hx hb dX8_repeats_4 rfl (lv_at hl 2 rfl) ?_
      refine lv_bipush (v := 60) hx hb dX8_repeats_5 (by decide) ?_
      refine lv_icmp_gt (tgt := 38) hx hb dX8_repeats_7 (by decide) (fun c7 => ?_) (fun c7 => ?_)
      · have hk2 : 60 < q := i_lt (by decide) (by omega) c7
        refine lv_iload_n hx hb dX8_repeats_38 rfl (lv_at hl 1 rfl) ?_
        refine hret _ _ _ _ _ _ dX8_repeats_39 hw ?_
        exact ⟨congrArg (fun z => some (Value.int z)) (by rw [ha, show q - 1 = 60 by omega]; rfl), rfl⟩
      · have hk2 : q ≤ 60 := i_nlt (by decide) (by omega) c7
        refine lv_aload_n hx hb dX8_repeats_10 rfl (lv_at hl 0 rfl) ?_
        refine lv_iload_n hx hb dX8_repeats_11 rfl (lv_at hl 2 rfl) ?_
        refine lv_bipush (v := (-6)) hx hb dX8_repeats_12 (by decide) ?_
        refine xcV (n := 2) (As := [.int (nI q), .int (-6)]) (rest := []) (wc := [(mo, .inr (5, [.ref th, .ref ea, .ref sa, .ref lk, .ref lq, .ref lz, .int lg, .int un, .int tm, .ref rb, .ref rn, .ref rt, .ref rk, .int kr, .ref cb, .ref cm, .ref cu, .ref ck, .int kc, .int se, .int tr, .ref mk, .ref nt, .ref kp, .ref iq, .int ka, .int wr])), (th, .inl (G.2.1, 61, .inl (tB m)))]) (wr := []) X hw (c_X8_oftenBut l G mo th ea sa lk lq lz rb rn rt rk cb cm cu ck mk nt kp iq lg un tm kr kc se tr ka wr m q (-6) hm (by omega) (by omega)) (C := RX8) gX8_repeats_X8_oftenBut (q0 := 0) rfl rfl rfl ⟨rfl, rfl⟩ (by decide +kernel) ⟨by decide, by decide⟩ rfl hl.1 rfl (Nat.le_of_ble_eq_true rfl) dX8_repeats_14 ⟨by decide, by decide⟩ [0, 1] [] rfl rfl rfl rfl (by decide) (fun r w1 H locs hp hw => ?_)
        obtain ⟨rfl, rfl⟩ := hp
        have hw := hw.sub (ws' := [(mo, .inr (5, [.ref th, .ref ea, .ref sa, .ref lk, .ref lq, .ref lz, .int lg, .int un, .int tm, .ref rb, .ref rn, .ref rt, .ref rk, .int kr, .ref cb, .ref cm, .ref cu, .ref ck, .int kc, .int se, .int tr, .ref mk, .ref nt, .ref kp, .ref iq, .int ka, .int wr])), (th, .inl (G.2.1, 61, .inl (tB m)))]) [0, 1] rfl rfl
        refine W.eq (g2 := F0 mt 17 ls [.int (nI (ofN (woN m (bitO (-6))) q))]) rfl ?_
        refine x_cvi (y := nI (ofN m q)) (by rw [wo_6]) ?_
        refine lv_istore_n (lv' := [(3, .int (nI (ofN m q))), (0, .ref mo), (1, .int (nI a)), (2, .int (nI q))]) hx hb dX8_repeats_17 rfl hl (by decide) rfl (fun ls hl => ?_)
        refine lv_iload_n hx hb dX8_repeats_18 rfl (lv_at hl 2 rfl) ?_
        refine lv_iload_n hx hb dX8_repeats_19 rfl (lv_at hl 0 rfl) ?_
        refine lv_if_le (tgt := 29) hx hb dX8_repeats_20 (by decide) (fun c20 => ?_) (fun c20 => ?_)
        · have hz : ofN m q = 0 := by have := i_le (b := 0) (Nat.lt_of_le_of_lt (ofN_le _ _) (by decide)) (by decide) c20; omega
          refine lv_iconst (v := 0) hx hb dX8_repeats_29 (by decide) ?_
          refine lv_iadd hx hb dX8_repeats_30 ?_
          refine x_cvi (y := nI a) (by exact nI_z _) ?_
          refine lv_istore_n (lv' := [(1, .int (nI a)), (3, .int (nI (ofN m q))), (0, .ref mo), (2, .int (nI q))]) hx hb dX8_repeats_31 rfl hl (by decide) rfl (fun ls hl => ?_)
          refine lv_iinc (v := nI (q + 1)) (lv' := [(2, .int (nI (q + 1))), (1, .int (nI a)), (3, .int (nI (ofN m q))), (0, .ref mo)]) hx hb dX8_repeats_32 hl (k := 3) rfl (by exact nI_1 _) (by decide) rfl (fun ls hl => ?_)
          refine lv_goto (tgt := 4) hx hb dX8_repeats_35 (by decide) ?_
          exact ih4 (q + 1) a _ _ _ (by omega) (by omega) (by rw [rp_step (by omega), ← ha]; omega) hw (lv_sub hl [3, 1, 0] rfl)
        · have hz : 0 < ofN m q := i_nle (b := 0) (Nat.lt_of_le_of_lt (ofN_le _ _) (by decide)) (by decide) c20
          refine lv_iload_n hx hb dX8_repeats_23 rfl (lv_at hl 0 rfl) ?_
          refine lv_iconst (v := 1) hx hb dX8_repeats_24 (by decide) ?_
          refine lv_isub hx hb dX8_repeats_25 ?_
          refine x_cvi (y := nI (ofN m q - 1)) (by exact pk_sub (b := 1) (by omega)) ?_
          refine lv_goto (tgt := 30) hx hb dX8_repeats_26 (by decide) ?_
          refine lv_iadd hx hb dX8_repeats_30 ?_
          refine x_cvi (y := nI (a + (ofN m q - 1))) (by exact nI_add _ _) ?_
          refine lv_istore_n (lv' := [(1, .int (nI (a + (ofN m q - 1)))), (3, .int (nI (ofN m q))), (0, .ref mo), (2, .int (nI q))]) hx hb dX8_repeats_31 rfl hl (by decide) rfl (fun ls hl => ?_)
          refine lv_iinc (v := nI (q + 1)) (lv' := [(2, .int (nI (q + 1))), (1, .int (nI (a + (ofN m q - 1)))), (3, .int (nI (ofN m q))), (0, .ref mo)]) hx hb dX8_repeats_32 hl (k := 3) rfl (by exact nI_1 _) (by decide) rfl (fun ls hl => ?_)
          refine lv_goto (tgt := 4) hx hb dX8_repeats_35 (by decide) ?_
          exact ih4 (q + 1) (a + (ofN m q - 1)) _ _ _ (by omega) (by omega) (by rw [rp_step (by omega), ← ha]) hw (lv_sub hl [3, 1, 0] rfl)
  exact lp4 _ 1 0 _ _ _ (Nat.lt_succ_self _) (by decide) (rfl) hw (lv_sub hl [2, 1, 0] rfl)

set_option maxHeartbeats 4000000 in
set_option maxRecDepth 100000 in
theorem c_X8_firstMissing (l : Launch) (G : GG) (mo : Nat) (th : Nat) (ea : Nat) (sa : Nat) (lk : Nat) (lq : Nat) (lz : Nat) (rb : Nat) (rn : Nat) (rt : Nat) (rk : Nat) (cb : Nat) (cm : Nat) (cu : Nat) (ck : Nat) (mk : Nat) (nt : Nat) (kp : Nat) (iq : Nat) (lg : Int32) (un : Int32) (tm : Int32) (kr : Int32) (kc : Int32) (se : Int32) (tr : Int32) (ka : Int32) (wr : Int32) (m : Nat) (hm : m < 2 ^ 61) : CT l G yX8_firstMissing wsX8_firstMissing ({ frames := 2, cells := 0, slots := 0, locals := 46 } : Room) [.ref mo] [(mo, .inr (5, [.ref th, .ref ea, .ref sa, .ref lk, .ref lq, .ref lz, .int lg, .int un, .int tm, .ref rb, .ref rn, .ref rt, .ref rk, .int kr, .ref cb, .ref cm, .ref cu, .ref ck, .int kc, .int se, .int tr, .ref mk, .ref nt, .ref kp, .ref iq, .int ka, .int wr])), (th, .inl (G.2.1, 61, .inl (tB m)))] (fun r w => r = some (.int (llN m)) ∧ w = [(mo, .inr (5, [.ref th, .ref ea, .ref sa, .ref lk, .ref lq, .ref lz, .int lg, .int un, .int tm, .ref rb, .ref rn, .ref rt, .ref rk, .int kr, .ref cb, .ref cm, .ref cu, .ref ck, .int kc, .int se, .int tr, .ref mk, .ref nt, .ref kp, .ref iq, .int ka, .int wr])), (th, .inl (G.2.1, 61, .inl (tB m)))]) 0 0 := by
  refine ct_i (cc := cX8_firstMissing) (maxL := 2) (by decide +kernel) rfl (Nat.le_of_ble_eq_true rfl) ?_
  intro p e s mt below meth c A Q X hw hret ls hl
  obtain ⟨hx, hb, -⟩ := id X
  have hl : lv_has ls 2 [(0, .ref mo)] := hl
  refine lv_aload_n hx hb dX8_firstMissing_0 rfl (lv_at hl 0 rfl) ?_
  refine lv_bipush (v := (-6)) hx hb dX8_firstMissing_1 (by decide) ?_
  refine xcV (n := 1) (As := [.int (-6)]) (rest := []) (wc := [(mo, .inr (5, [.ref th, .ref ea, .ref sa, .ref lk, .ref lq, .ref lz, .int lg, .int un, .int tm, .ref rb, .ref rn, .ref rt, .ref rk, .int kr, .ref cb, .ref cm, .ref cu, .ref ck, .int kc, .int se, .int tr, .ref mk, .ref nt, .ref kp, .ref iq, .int ka, .int wr])), (th, .inl (G.2.1, 61, .inl (tB m)))]) (wr := []) X hw (c_X8_reachBut l G mo th ea sa lk lq lz rb rn rt rk cb cm cu ck mk nt kp iq lg un tm kr kc se tr ka wr m (-6) hm) (C := RX8) gX8_firstMissing_X8_reachBut (q0 := 0) rfl rfl rfl ⟨rfl, rfl⟩ (by decide +kernel) ⟨by decide, by decide⟩ rfl hl.1 rfl (Nat.le_of_ble_eq_true rfl) dX8_firstMissing_3 ⟨by decide, by decide⟩ [0, 1] [] rfl rfl rfl rfl (by decide) (fun r w1 H locs hp hw => ?_)
  obtain ⟨rfl, rfl⟩ := hp
  have hw := hw.sub (ws' := [(mo, .inr (5, [.ref th, .ref ea, .ref sa, .ref lk, .ref lq, .ref lz, .int lg, .int un, .int tm, .ref rb, .ref rn, .ref rt, .ref rk, .int kr, .ref cb, .ref cm, .ref cu, .ref ck, .int kc, .int se, .int tr, .ref mk, .ref nt, .ref kp, .ref iq, .int ka, .int wr])), (th, .inl (G.2.1, 61, .inl (tB m)))]) [0, 1] rfl rfl
  refine W.eq (g2 := F0 mt 6 ls [.int (nI (reN (woN m (bitO (-6)))))]) rfl ?_
  refine x_cvi (y := nI (reN m)) (by rw [wo_6]) ?_
  refine lv_iconst (v := 1) hx hb dX8_firstMissing_6 (by decide) ?_
  refine lv_iadd hx hb dX8_firstMissing_7 ?_
  refine x_cvi (y := nI (reN m + 1)) (by exact nI_1 _) ?_
  refine lv_istore_n (lv' := [(1, .int (nI (reN m + 1))), (0, .ref mo)]) hx hb dX8_firstMissing_8 rfl hl (by decide) rfl (fun ls hl => ?_)
  refine lv_iload_n hx hb dX8_firstMissing_9 rfl (lv_at hl 0 rfl) ?_
  refine lv_aload_n hx hb dX8_firstMissing_10 rfl (lv_at hl 1 rfl) ?_
  refine xcV (n := 0) (As := []) (rest := [.int (nI (reN m + 1))]) (wc := [(mo, .inr (5, [.ref th, .ref ea, .ref sa, .ref lk, .ref lq, .ref lz, .int lg, .int un, .int tm, .ref rb, .ref rn, .ref rt, .ref rk, .int kr, .ref cb, .ref cm, .ref cu, .ref ck, .int kc, .int se, .int tr, .ref mk, .ref nt, .ref kp, .ref iq, .int ka, .int wr])), (th, .inl (G.2.1, 61, .inl (tB m)))]) (wr := []) X hw (c_X8_span l G mo th ea sa lk lq lz rb rn rt rk cb cm cu ck mk nt kp iq lg un tm kr kc se tr ka wr m hm) (C := RX8) gX8_firstMissing_X8_span (q0 := 0) rfl rfl rfl ⟨rfl, rfl⟩ (by decide +kernel) ⟨by decide, by decide⟩ rfl hl.1 rfl (Nat.le_of_ble_eq_true rfl) dX8_firstMissing_11 ⟨by decide, by decide⟩ [0, 1] [] rfl rfl rfl rfl (by decide) (fun r w1 H locs hp hw => ?_)
  obtain ⟨rfl, rfl⟩ := hp
  have hw := hw.sub (ws' := [(mo, .inr (5, [.ref th, .ref ea, .ref sa, .ref lk, .ref lq, .ref lz, .int lg, .int un, .int tm, .ref rb, .ref rn, .ref rt, .ref rk, .int kr, .ref cb, .ref cm, .ref cu, .ref ck, .int kc, .int se, .int tr, .ref mk, .ref nt, .ref kp, .ref iq, .int ka, .int wr])), (th, .inl (G.2.1, 61, .inl (tB m)))]) [0, 1] rfl rfl
  refine W.eq (g2 := F0 mt 14 ls [.int (nI (spN m)), .int (nI (reN m + 1))]) rfl ?_
  refine lv_icmp_ge (tgt := 21) hx hb dX8_firstMissing_14 (by decide) (fun c14 => ?_) (fun c14 => ?_)
  · have hk2 : spN m ≤ reN m + 1 := i_le (Nat.lt_of_le_of_lt (spN_le m) (by decide)) (by have := reN_le m; omega) c14
    refine lv_bipush (v := (-6)) hx hb dX8_firstMissing_21 (by decide) ?_
    refine hret _ _ _ _ _ _ dX8_firstMissing_23 hw ?_
    exact ⟨congrArg (fun z => some (Value.int z)) (by unfold llN; rw [if_neg (fun z => by have := ll_ne z; omega)]), rfl⟩
  · have hk2 : reN m + 1 < spN m := i_nle (Nat.lt_of_le_of_lt (spN_le m) (by decide)) (by have := reN_le m; omega) c14
    refine lv_iload_n hx hb dX8_firstMissing_17 rfl (lv_at hl 0 rfl) ?_
    refine lv_goto (tgt := 23) hx hb dX8_firstMissing_18 (by decide) ?_
    refine hret _ _ _ _ _ _ dX8_firstMissing_23 hw ?_
    exact ⟨congrArg (fun z => some (Value.int z)) (by unfold llN; rw [if_pos (by omega)]), rfl⟩

set_option maxHeartbeats 4000000 in
set_option maxRecDepth 100000 in
theorem c_X8_mostOften (l : Launch) (G : GG) (mo : Nat) (th : Nat) (ea : Nat) (sa : Nat) (lk : Nat) (lq : Nat) (lz : Nat) (rb : Nat) (rn : Nat) (rt : Nat) (rk : Nat) (cb : Nat) (cm : Nat) (cu : Nat) (ck : Nat) (mk : Nat) (nt : Nat) (kp : Nat) (iq : Nat) (lg : Int32) (un : Int32) (tm : Int32) (kr : Int32) (kc : Int32) (se : Int32) (tr : Int32) (ka : Int32) (wr : Int32) (m : Nat) (hm : m < 2 ^ 61) : CT l G yX8_mostOften wsX8_mostOften ({ frames := 1, cells := 0, slots := 0, locals := 24 } : Room) [.ref mo] [(mo, .inr (5, [.ref th, .ref ea, .ref sa, .ref lk, .ref lq, .ref lz, .int lg, .int un, .int tm, .ref rb, .ref rn, .ref rt, .ref rk, .int kr, .ref cb, .ref cm, .ref cu, .ref ck, .int kc, .int se, .int tr, .ref mk, .ref nt, .ref kp, .ref iq, .int ka, .int wr])), (th, .inl (G.2.1, 61, .inl (tB m)))] (fun r w => r = some (.int (moN m)) ∧ w = [(mo, .inr (5, [.ref th, .ref ea, .ref sa, .ref lk, .ref lq, .ref lz, .int lg, .int un, .int tm, .ref rb, .ref rn, .ref rt, .ref rk, .int kr, .ref cb, .ref cm, .ref cu, .ref ck, .int kc, .int se, .int tr, .ref mk, .ref nt, .ref kp, .ref iq, .int ka, .int wr])), (th, .inl (G.2.1, 61, .inl (tB m)))]) 0 0 := by
  refine ct_i (cc := cX8_mostOften) (maxL := 4) (by decide +kernel) rfl (Nat.le_of_ble_eq_true rfl) ?_
  intro p e s mt below meth c A Q X hw hret ls hl
  obtain ⟨hx, hb, -⟩ := id X
  have hl : lv_has ls 4 [(0, .ref mo)] := hl
  refine lv_bipush (v := (-6)) hx hb dX8_mostOften_0 (by decide) ?_
  refine lv_istore_n (lv' := [(1, .int (-6)), (0, .ref mo)]) hx hb dX8_mostOften_2 rfl hl (by decide) rfl (fun ls hl => ?_)
  refine lv_bipush (v := 60) hx hb dX8_mostOften_3 (by decide) ?_
  refine x_cvi (y := nI 60) (by rfl) ?_
  refine lv_istore_n (lv' := [(2, .int (nI 60)), (1, .int (-6)), (0, .ref mo)]) hx hb dX8_mostOften_5 rfl hl (by decide) rfl (fun ls hl => ?_)
  have lp6 : ∀ (fu : Nat) (q : Nat) (w : Int32) (H : Heap) (locs : List Loc) (ls : Array Slot), q < fu → (q ≤ 60) → (moB m q 60 w) → WS G A s.heap H locs [(mo, .inr (5, [.ref th, .ref ea, .ref sa, .ref lk, .ref lq, .ref lz, .int lg, .int un, .int tm, .ref rb, .ref rn, .ref rt, .ref rk, .int kr, .ref cb, .ref cm, .ref cu, .ref ck, .int kc, .int se, .int tr, .ref mk, .ref nt, .ref kp, .ref iq, .int ka, .int wr])), (th, .inl (G.2.1, 61, .inl (tB m)))] → lv_has ls 4 [(0, .ref mo), (1, .int w), (2, .int (nI q))] → W p l e ({ frames := 1, cells := 0, slots := 0, locals := 24 } : Room) s mt ([.ref mo] : List Value).toArray below meth c H locs 0 0 Q (F0 mt 6 ls []) := by
    intro fu
    induction fu with
    | zero =>
      intro q w H locs ls hmu
      exact absurd hmu (Nat.not_lt_zero _)
    | succ fu ih6 =>
      intro q w H locs ls hmu6 hq hB hw hl
      refine lv_iload_n hx hb dX8_mostOften_6 rfl (lv_at hl 2 rfl) ?_
      refine lv_if_le (tgt := 49) hx hb dX8_mostOften_7 (by decide) (fun c7 => ?_) (fun c7 => ?_)
      · have hk2 : q = 0 := by have := i_le (b := 0) (by omega) (by decide) c7; omega
        refine lv_iload_n hx hb dX8_mostOften_49 rfl (lv_at hl 1 rfl) ?_
        refine hret _ _ _ _ _ _ dX8_mostOften_50 hw ?_
        exact ⟨congrArg (fun z => some (Value.int z)) (by rw [hk2] at hB; exact mo_eq hB), rfl⟩
      · have hk2 : 0 < q := i_nle (b := 0) (by omega) (by decide) c7
        refine lv_aload_n hx hb dX8_mostOften_10 rfl (lv_at hl 0 rfl) ?_
        refine lv_iload_n hx hb dX8_mostOften_11 rfl (lv_at hl 2 rfl) ?_
        refine lv_bipush (v := (-6)) hx hb dX8_mostOften_12 (by decide) ?_
        refine xcV (n := 2) (As := [.int (nI q), .int (-6)]) (rest := []) (wc := [(mo, .inr (5, [.ref th, .ref ea, .ref sa, .ref lk, .ref lq, .ref lz, .int lg, .int un, .int tm, .ref rb, .ref rn, .ref rt, .ref rk, .int kr, .ref cb, .ref cm, .ref cu, .ref ck, .int kc, .int se, .int tr, .ref mk, .ref nt, .ref kp, .ref iq, .int ka, .int wr])), (th, .inl (G.2.1, 61, .inl (tB m)))]) (wr := []) X hw (c_X8_oftenBut l G mo th ea sa lk lq lz rb rn rt rk cb cm cu ck mk nt kp iq lg un tm kr kc se tr ka wr m q (-6) hm (by omega) (by omega)) (C := RX8) gX8_mostOften_X8_oftenBut (q0 := 0) rfl rfl rfl ⟨rfl, rfl⟩ (by decide +kernel) ⟨by decide, by decide⟩ rfl hl.1 rfl (Nat.le_of_ble_eq_true rfl) dX8_mostOften_14 ⟨by decide, by decide⟩ [0, 1] [] rfl rfl rfl rfl (by decide) (fun r w1 H locs hp hw => ?_)
        obtain ⟨rfl, rfl⟩ := hp
        have hw := hw.sub (ws' := [(mo, .inr (5, [.ref th, .ref ea, .ref sa, .ref lk, .ref lq, .ref lz, .int lg, .int un, .int tm, .ref rb, .ref rn, .ref rt, .ref rk, .int kr, .ref cb, .ref cm, .ref cu, .ref ck, .int kc, .int se, .int tr, .ref mk, .ref nt, .ref kp, .ref iq, .int ka, .int wr])), (th, .inl (G.2.1, 61, .inl (tB m)))]) [0, 1] rfl rfl
        refine W.eq (g2 := F0 mt 17 ls [.int (nI (ofN (woN m (bitO (-6))) q))]) rfl ?_
        refine x_cvi (y := nI (ofN m q)) (by rw [wo_6]) ?_
        refine lv_istore_n (lv' := [(3, .int (nI (ofN m q))), (0, .ref mo), (1, .int w), (2, .int (nI q))]) hx hb dX8_mostOften_17 rfl hl (by decide) rfl (fun ls hl => ?_)
        refine lv_iload_n hx hb dX8_mostOften_18 rfl (lv_at hl 0 rfl) ?_
        refine lv_if_le (tgt := 41) hx hb dX8_mostOften_19 (by decide) (fun c19 => ?_) (fun c19 => ?_)
        · have hz : ofN m q = 0 := by have := i_le (b := 0) (Nat.lt_of_le_of_lt (ofN_le _ _) (by decide)) (by decide) c19; omega
          refine lv_iload_n hx hb dX8_mostOften_41 rfl (lv_at hl 2 rfl) ?_
          refine lv_istore_n (lv' := [(1, .int w), (3, .int (nI (ofN m q))), (0, .ref mo), (2, .int (nI q))]) hx hb dX8_mostOften_42 rfl hl (by decide) rfl (fun ls hl => ?_)
          refine lv_iinc (v := nI (q - 1)) (lv' := [(2, .int (nI (q - 1))), (1, .int w), (3, .int (nI (ofN m q))), (0, .ref mo)]) hx hb dX8_mostOften_43 hl (k := 3) rfl (by exact nI_dec (by omega)) (by decide) rfl (fun ls hl => ?_)
          refine lv_goto (tgt := 6) hx hb dX8_mostOften_46 (by decide) ?_
          exact ih6 (q - 1) w _ _ _ (by omega) (by omega) (moB_z (by omega) hz hB) hw (lv_sub hl [3, 1, 0] rfl)
        · have hz : 0 < ofN m q := i_nle (b := 0) (Nat.lt_of_le_of_lt (ofN_le _ _) (by decide)) (by decide) c19
          refine lv_iload_n hx hb dX8_mostOften_22 rfl (lv_at hl 2 rfl) ?_
          refine lv_if_lt (tgt := 37) hx hb dX8_mostOften_23 (by decide) (fun c23 => ?_) (fun c23 => ?_)
          · skip
            refine lv_iload_n hx hb dX8_mostOften_37 rfl (lv_at hl 3 rfl) ?_
            refine lv_goto (tgt := 42) hx hb dX8_mostOften_38 (by decide) ?_
            refine lv_istore_n (lv' := [(1, .int (nI q)), (3, .int (nI (ofN m q))), (0, .ref mo), (2, .int (nI q))]) hx hb dX8_mostOften_42 rfl hl (by decide) rfl (fun ls hl => ?_)
            refine lv_iinc (v := nI (q - 1)) (lv' := [(2, .int (nI (q - 1))), (1, .int (nI q)), (3, .int (nI (ofN m q))), (0, .ref mo)]) hx hb dX8_mostOften_43 hl (k := 3) rfl (by exact nI_dec (by omega)) (by decide) rfl (fun ls hl => ?_)
            refine lv_goto (tgt := 6) hx hb dX8_mostOften_46 (by decide) ?_
            exact ih6 (q - 1) (nI q) _ _ _ (by omega) (by omega) (by first | exact moB_n (by omega) hq hz (fun j b1 b2 => by rw [moB_l (Nat.le_refl _) hB c23 j b1 b2]; omega) | exact moB_n (by omega) hq hz (fun j b1 b2 => Nat.le_trans (hk4 j b1 b2) (i_nlt (Nat.lt_of_le_of_lt (ofN_le _ _) (by decide)) (Nat.lt_of_le_of_lt (ofN_le _ _) (by decide)) c34))) hw (lv_sub hl [3, 1, 0] rfl)
          · obtain ⟨k, rfl, hk1, hkk2, hk3, hk4, hk5⟩ := moB_k (Nat.le_refl _) hB c23
            refine lv_iload_n hx hb dX8_mostOften_26 rfl (lv_at hl 0 rfl) ?_
            refine lv_aload_n hx hb dX8_mostOften_27 rfl (lv_at hl 1 rfl) ?_
            refine lv_iload_n hx hb dX8_mostOften_28 rfl (lv_at hl 2 rfl) ?_
            refine lv_bipush (v := (-6)) hx hb dX8_mostOften_29 (by decide) ?_
            refine xcV (n := 2) (As := [.int (nI k), .int (-6)]) (rest := [.int (nI (ofN m q))]) (wc := [(mo, .inr (5, [.ref th, .ref ea, .ref sa, .ref lk, .ref lq, .ref lz, .int lg, .int un, .int tm, .ref rb, .ref rn, .ref rt, .ref rk, .int kr, .ref cb, .ref cm, .ref cu, .ref ck, .int kc, .int se, .int tr, .ref mk, .ref nt, .ref kp, .ref iq, .int ka, .int wr])), (th, .inl (G.2.1, 61, .inl (tB m)))]) (wr := []) X hw (c_X8_oftenBut l G mo th ea sa lk lq lz rb rn rt rk cb cm cu ck mk nt kp iq lg un tm kr kc se tr ka wr m k (-6) hm (by omega) (by omega)) (C := RX8) gX8_mostOften_X8_oftenBut (q0 := 0) rfl rfl rfl ⟨rfl, rfl⟩ (by decide +kernel) ⟨by decide, by decide⟩ rfl hl.1 rfl (Nat.le_of_ble_eq_true rfl) dX8_mostOften_31 ⟨by decide, by decide⟩ [0, 1] [] rfl rfl rfl rfl (by decide) (fun r w1 H locs hp hw => ?_)
            obtain ⟨rfl, rfl⟩ := hp
            have hw := hw.sub (ws' := [(mo, .inr (5, [.ref th, .ref ea, .ref sa, .ref lk, .ref lq, .ref lz, .int lg, .int un, .int tm, .ref rb, .ref rn, .ref rt, .ref rk, .int kr, .ref cb, .ref cm, .ref cu, .ref ck, .int kc, .int se, .int tr, .ref mk, .ref nt, .ref kp, .ref iq, .int ka, .int wr])), (th, .inl (G.2.1, 61, .inl (tB m)))]) [0, 1] rfl rfl
            refine W.eq (g2 := F0 mt 34 ls [.int (nI (ofN (woN m (bitO (-6))) k)), .int (nI (ofN m q))]) rfl ?_
            refine x_cvi (y := nI (ofN m k)) (by rw [wo_6]) ?_
            refine lv_icmp_lt (tgt := 41) hx hb dX8_mostOften_34 (by decide) (fun c34 => ?_) (fun c34 => ?_)
            · refine lv_iload_n hx hb dX8_mostOften_41 rfl (lv_at hl 2 rfl) ?_
              refine lv_istore_n (lv' := [(1, .int (nI k)), (3, .int (nI (ofN m q))), (0, .ref mo), (2, .int (nI q))]) hx hb dX8_mostOften_42 rfl hl (by decide) rfl (fun ls hl => ?_)
              refine lv_iinc (v := nI (q - 1)) (lv' := [(2, .int (nI (q - 1))), (1, .int (nI k)), (3, .int (nI (ofN m q))), (0, .ref mo)]) hx hb dX8_mostOften_43 hl (k := 3) rfl (by exact nI_dec (by omega)) (by decide) rfl (fun ls hl => ?_)
              refine lv_goto (tgt := 6) hx hb dX8_mostOften_46 (by decide) ?_
              exact ih6 (q - 1) (nI k) _ _ _ (by omega) (by omega) (moB_s (by omega) (i_lt (Nat.lt_of_le_of_lt (ofN_le _ _) (by decide)) (Nat.lt_of_le_of_lt (ofN_le _ _) (by decide)) c34) hk1 hkk2 hk4 hk5) hw (lv_sub hl [3, 1, 0] rfl)
            · refine lv_iload_n hx hb dX8_mostOften_37 rfl (lv_at hl 3 rfl) ?_
              refine lv_goto (tgt := 42) hx hb dX8_mostOften_38 (by decide) ?_
              refine lv_istore_n (lv' := [(1, .int (nI q)), (3, .int (nI (ofN m q))), (0, .ref mo), (2, .int (nI q))]) hx hb dX8_mostOften_42 rfl hl (by decide) rfl (fun ls hl => ?_)
              refine lv_iinc (v := nI (q - 1)) (lv' := [(2, .int (nI (q - 1))), (1, .int (nI q)), (3, .int (nI (ofN m q))), (0, .ref mo)]) hx hb dX8_mostOften_43 hl (k := 3) rfl (by exact nI_dec (by omega)) (by decide) rfl (fun ls hl => ?_)
              refine lv_goto (tgt := 6) hx hb dX8_mostOften_46 (by decide) ?_
              exact ih6 (q - 1) (nI q) _ _ _ (by omega) (by omega) (by first | exact moB_n (by omega) hq hz (fun j b1 b2 => by rw [moB_l (Nat.le_refl _) hB c23 j b1 b2]; omega) | exact moB_n (by omega) hq hz (fun j b1 b2 => Nat.le_trans (hk4 j b1 b2) (i_nlt (Nat.lt_of_le_of_lt (ofN_le _ _) (by decide)) (Nat.lt_of_le_of_lt (ofN_le _ _) (by decide)) c34))) hw (lv_sub hl [3, 1, 0] rfl)
  exact lp6 _ 60 (-6) _ _ _ (Nat.lt_succ_self _) (by decide) (moB_0 m 60) hw (lv_sub hl [2, 1, 0] rfl)

set_option maxHeartbeats 4000000 in
set_option maxRecDepth 100000 in
theorem c_X8_facts (l : Launch) (G : GG) (mo : Nat) (th : Nat) (ea : Nat) (sa : Nat) (lk : Nat) (lq : Nat) (lz : Nat) (rb : Nat) (rn : Nat) (rt : Nat) (rk : Nat) (cb : Nat) (cm : Nat) (cu : Nat) (ck : Nat) (mk : Nat) (nt : Nat) (kp : Nat) (iq : Nat) (lg : Int32) (un : Int32) (tm : Int32) (kr : Int32) (kc : Int32) (se : Int32) (tr : Int32) (ka : Int32) (wr : Int32) (m : Nat) (x : Int32) (hm : m < 2 ^ 61) : CT l G yX8_facts wsX8_facts ({ frames := 3, cells := 0, slots := 0, locals := 68 } : Room) [.ref mo, .int x] [(mo, .inr (5, [.ref th, .ref ea, .ref sa, .ref lk, .ref lq, .ref lz, .int lg, .int un, .int tm, .ref rb, .ref rn, .ref rt, .ref rk, .int kr, .ref cb, .ref cm, .ref cu, .ref ck, .int kc, .int se, .int tr, .ref mk, .ref nt, .ref kp, .ref iq, .int ka, .int wr])), (th, .inl (G.2.1, 61, .inl (tB m)))] (fun r w => r = some (.int (faR m x)) ∧ w = [(mo, .inr (5, [.ref th, .ref ea, .ref sa, .ref lk, .ref lq, .ref lz, .int lg, .int un, .int tm, .ref rb, .ref rn, .ref rt, .ref rk, .int kr, .ref cb, .ref cm, .ref cu, .ref ck, .int kc, .int se, .int tr, .ref mk, .ref nt, .ref kp, .ref iq, .int ka, .int wr])), (th, .inl (G.2.1, 61, .inl (tB m)))]) 0 0 := by
  refine ct_i (cc := cX8_facts) (maxL := 2) (by decide +kernel) rfl (Nat.le_of_ble_eq_true rfl) ?_
  intro p e s mt below meth c A Q X hw hret ls hl
  obtain ⟨hx, hb, -⟩ := id X
  have hl : lv_has ls 2 [(0, .ref mo), (1, .int x)] := hl
  refine lv_iload_n hx hb dX8_facts_0 rfl (lv_at hl 1 rfl) ?_
  by_cases ht1_0 : x = 0
  · refine lv_tableIn (tgt := 44) hx hb dX8_facts_1 (by rw [ht1_0]; decide) (by rw [ht1_0]; decide) (off := 43) (by rw [ht1_0]; rfl) (by decide) ?_
    refine lv_aload_n hx hb dX8_facts_44 rfl (lv_at hl 0 rfl) ?_
    refine xcV (n := 0) (As := []) (rest := []) (wc := [(mo, .inr (5, [.ref th, .ref ea, .ref sa, .ref lk, .ref lq, .ref lz, .int lg, .int un, .int tm, .ref rb, .ref rn, .ref rt, .ref rk, .int kr, .ref cb, .ref cm, .ref cu, .ref ck, .int kc, .int se, .int tr, .ref mk, .ref nt, .ref kp, .ref iq, .int ka, .int wr])), (th, .inl (G.2.1, 61, .inl (tB m)))]) (wr := []) X hw (c_X8_dishes l G mo th ea sa lk lq lz rb rn rt rk cb cm cu ck mk nt kp iq lg un tm kr kc se tr ka wr m hm) (C := RX8) gX8_facts_X8_dishes (q0 := 0) rfl rfl rfl ⟨rfl, rfl⟩ (by decide +kernel) ⟨by decide, by decide⟩ rfl hl.1 rfl (Nat.le_of_ble_eq_true rfl) dX8_facts_45 ⟨by decide, by decide⟩ [0, 1] [] rfl rfl rfl rfl (by decide) (fun r w1 H locs hp hw => ?_)
    obtain ⟨rfl, rfl⟩ := hp
    have hw := hw.sub (ws' := [(mo, .inr (5, [.ref th, .ref ea, .ref sa, .ref lk, .ref lq, .ref lz, .int lg, .int un, .int tm, .ref rb, .ref rn, .ref rt, .ref rk, .int kr, .ref cb, .ref cm, .ref cu, .ref ck, .int kc, .int se, .int tr, .ref mk, .ref nt, .ref kp, .ref iq, .int ka, .int wr])), (th, .inl (G.2.1, 61, .inl (tB m)))]) [0, 1] rfl rfl
    refine W.eq (g2 := F0 mt 48 ls [.int (nI (pcN 64 m))]) rfl ?_
    refine hret _ _ _ _ _ _ dX8_facts_48 hw ?_
    exact ⟨congrArg (fun z => some (Value.int z)) (by simp [faR, ht1_0]), rfl⟩
  by_cases ht1_1 : x = 1
  · refine lv_tableIn (tgt := 49) hx hb dX8_facts_1 (by rw [ht1_1]; decide) (by rw [ht1_1]; decide) (off := 48) (by rw [ht1_1]; rfl) (by decide) ?_
    refine lv_aload_n hx hb dX8_facts_49 rfl (lv_at hl 0 rfl) ?_
    refine xcV (n := 0) (As := []) (rest := []) (wc := [(mo, .inr (5, [.ref th, .ref ea, .ref sa, .ref lk, .ref lq, .ref lz, .int lg, .int un, .int tm, .ref rb, .ref rn, .ref rt, .ref rk, .int kr, .ref cb, .ref cm, .ref cu, .ref ck, .int kc, .int se, .int tr, .ref mk, .ref nt, .ref kp, .ref iq, .int ka, .int wr])), (th, .inl (G.2.1, 61, .inl (tB m)))]) (wr := []) X hw (c_X8_span l G mo th ea sa lk lq lz rb rn rt rk cb cm cu ck mk nt kp iq lg un tm kr kc se tr ka wr m hm) (C := RX8) gX8_facts_X8_span (q0 := 0) rfl rfl rfl ⟨rfl, rfl⟩ (by decide +kernel) ⟨by decide, by decide⟩ rfl hl.1 rfl (Nat.le_of_ble_eq_true rfl) dX8_facts_50 ⟨by decide, by decide⟩ [0, 1] [] rfl rfl rfl rfl (by decide) (fun r w1 H locs hp hw => ?_)
    obtain ⟨rfl, rfl⟩ := hp
    have hw := hw.sub (ws' := [(mo, .inr (5, [.ref th, .ref ea, .ref sa, .ref lk, .ref lq, .ref lz, .int lg, .int un, .int tm, .ref rb, .ref rn, .ref rt, .ref rk, .int kr, .ref cb, .ref cm, .ref cu, .ref ck, .int kc, .int se, .int tr, .ref mk, .ref nt, .ref kp, .ref iq, .int ka, .int wr])), (th, .inl (G.2.1, 61, .inl (tB m)))]) [0, 1] rfl rfl
    refine W.eq (g2 := F0 mt 53 ls [.int (nI (spN m))]) rfl ?_
    refine hret _ _ _ _ _ _ dX8_facts_53 hw ?_
    exact ⟨congrArg (fun z => some (Value.int z)) (by simp [faR, ht1_1]), rfl⟩
  by_cases ht1_2 : x = 2
  · refine lv_tableIn (tgt := 54) hx hb dX8_facts_1 (by rw [ht1_2]; decide) (by rw [ht1_2]; decide) (off := 53) (by rw [ht1_2]; rfl) (by decide) ?_
    refine lv_aload_n hx hb dX8_facts_54 rfl (lv_at hl 0 rfl) ?_
    refine lv_bipush (v := (-6)) hx hb dX8_facts_55 (by decide) ?_
    refine xcV (n := 1) (As := [.int (-6)]) (rest := []) (wc := [(mo, .inr (5, [.ref th, .ref ea, .ref sa, .ref lk, .ref lq, .ref lz, .int lg, .int un, .int tm, .ref rb, .ref rn, .ref rt, .ref rk, .int kr, .ref cb, .ref cm, .ref cu, .ref ck, .int kc, .int se, .int tr, .ref mk, .ref nt, .ref kp, .ref iq, .int ka, .int wr])), (th, .inl (G.2.1, 61, .inl (tB m)))]) (wr := []) X hw (c_X8_reachBut l G mo th ea sa lk lq lz rb rn rt rk cb cm cu ck mk nt kp iq lg un tm kr kc se tr ka wr m (-6) hm) (C := RX8) gX8_facts_X8_reachBut (q0 := 0) rfl rfl rfl ⟨rfl, rfl⟩ (by decide +kernel) ⟨by decide, by decide⟩ rfl hl.1 rfl (Nat.le_of_ble_eq_true rfl) dX8_facts_57 ⟨by decide, by decide⟩ [0, 1] [] rfl rfl rfl rfl (by decide) (fun r w1 H locs hp hw => ?_)
    obtain ⟨rfl, rfl⟩ := hp
    have hw := hw.sub (ws' := [(mo, .inr (5, [.ref th, .ref ea, .ref sa, .ref lk, .ref lq, .ref lz, .int lg, .int un, .int tm, .ref rb, .ref rn, .ref rt, .ref rk, .int kr, .ref cb, .ref cm, .ref cu, .ref ck, .int kc, .int se, .int tr, .ref mk, .ref nt, .ref kp, .ref iq, .int ka, .int wr])), (th, .inl (G.2.1, 61, .inl (tB m)))]) [0, 1] rfl rfl
    refine W.eq (g2 := F0 mt 60 ls [.int (nI (reN (woN m (bitO (-6)))))]) rfl ?_
    refine x_cvi (y := nI (reN m)) (by rw [wo_6]) ?_
    refine hret _ _ _ _ _ _ dX8_facts_60 hw ?_
    exact ⟨congrArg (fun z => some (Value.int z)) (by simp [faR, ht1_2]), rfl⟩
  by_cases ht1_3 : x = 3
  · refine lv_tableIn (tgt := 61) hx hb dX8_facts_1 (by rw [ht1_3]; decide) (by rw [ht1_3]; decide) (off := 60) (by rw [ht1_3]; rfl) (by decide) ?_
    refine lv_aload_n hx hb dX8_facts_61 rfl (lv_at hl 0 rfl) ?_
    refine xcV (n := 0) (As := []) (rest := []) (wc := [(mo, .inr (5, [.ref th, .ref ea, .ref sa, .ref lk, .ref lq, .ref lz, .int lg, .int un, .int tm, .ref rb, .ref rn, .ref rt, .ref rk, .int kr, .ref cb, .ref cm, .ref cu, .ref ck, .int kc, .int se, .int tr, .ref mk, .ref nt, .ref kp, .ref iq, .int ka, .int wr])), (th, .inl (G.2.1, 61, .inl (tB m)))]) (wr := []) X hw (c_X8_missing l G mo th ea sa lk lq lz rb rn rt rk cb cm cu ck mk nt kp iq lg un tm kr kc se tr ka wr m hm) (C := RX8) gX8_facts_X8_missing (q0 := 0) rfl rfl rfl ⟨rfl, rfl⟩ (by decide +kernel) ⟨by decide, by decide⟩ rfl hl.1 rfl (Nat.le_of_ble_eq_true rfl) dX8_facts_62 ⟨by decide, by decide⟩ [0, 1] [] rfl rfl rfl rfl (by decide) (fun r w1 H locs hp hw => ?_)
    obtain ⟨rfl, rfl⟩ := hp
    have hw := hw.sub (ws' := [(mo, .inr (5, [.ref th, .ref ea, .ref sa, .ref lk, .ref lq, .ref lz, .int lg, .int un, .int tm, .ref rb, .ref rn, .ref rt, .ref rk, .int kr, .ref cb, .ref cm, .ref cu, .ref ck, .int kc, .int se, .int tr, .ref mk, .ref nt, .ref kp, .ref iq, .int ka, .int wr])), (th, .inl (G.2.1, 61, .inl (tB m)))]) [0, 1] rfl rfl
    refine W.eq (g2 := F0 mt 65 ls [.int (nI (lkN m))]) rfl ?_
    refine hret _ _ _ _ _ _ dX8_facts_65 hw ?_
    exact ⟨congrArg (fun z => some (Value.int z)) (by simp [faR, ht1_3]), rfl⟩
  by_cases ht1_4 : x = 4
  · refine lv_tableIn (tgt := 66) hx hb dX8_facts_1 (by rw [ht1_4]; decide) (by rw [ht1_4]; decide) (off := 65) (by rw [ht1_4]; rfl) (by decide) ?_
    refine lv_aload_n hx hb dX8_facts_66 rfl (lv_at hl 0 rfl) ?_
    refine xcV (n := 0) (As := []) (rest := []) (wc := [(mo, .inr (5, [.ref th, .ref ea, .ref sa, .ref lk, .ref lq, .ref lz, .int lg, .int un, .int tm, .ref rb, .ref rn, .ref rt, .ref rk, .int kr, .ref cb, .ref cm, .ref cu, .ref ck, .int kc, .int se, .int tr, .ref mk, .ref nt, .ref kp, .ref iq, .int ka, .int wr])), (th, .inl (G.2.1, 61, .inl (tB m)))]) (wr := []) X hw (c_X8_repeats l G mo th ea sa lk lq lz rb rn rt rk cb cm cu ck mk nt kp iq lg un tm kr kc se tr ka wr m hm) (C := RX8) gX8_facts_X8_repeats (q0 := 0) rfl rfl rfl ⟨rfl, rfl⟩ (by decide +kernel) ⟨by decide, by decide⟩ rfl hl.1 rfl (Nat.le_of_ble_eq_true rfl) dX8_facts_67 ⟨by decide, by decide⟩ [0, 1] [] rfl rfl rfl rfl (by decide) (fun r w1 H locs hp hw => ?_)
    obtain ⟨rfl, rfl⟩ := hp
    have hw := hw.sub (ws' := [(mo, .inr (5, [.ref th, .ref ea, .ref sa, .ref lk, .ref lq, .ref lz, .int lg, .int un, .int tm, .ref rb, .ref rn, .ref rt, .ref rk, .int kr, .ref cb, .ref cm, .ref cu, .ref ck, .int kc, .int se, .int tr, .ref mk, .ref nt, .ref kp, .ref iq, .int ka, .int wr])), (th, .inl (G.2.1, 61, .inl (tB m)))]) [0, 1] rfl rfl
    refine W.eq (g2 := F0 mt 70 ls [.int (nI (rpN m))]) rfl ?_
    refine hret _ _ _ _ _ _ dX8_facts_70 hw ?_
    exact ⟨congrArg (fun z => some (Value.int z)) (by simp [faR, ht1_4]), rfl⟩
  by_cases ht1_5 : x = 5
  · refine lv_tableIn (tgt := 71) hx hb dX8_facts_1 (by rw [ht1_5]; decide) (by rw [ht1_5]; decide) (off := 70) (by rw [ht1_5]; rfl) (by decide) ?_
    refine lv_aload_n hx hb dX8_facts_71 rfl (lv_at hl 0 rfl) ?_
    refine xcV (n := 0) (As := []) (rest := []) (wc := [(mo, .inr (5, [.ref th, .ref ea, .ref sa, .ref lk, .ref lq, .ref lz, .int lg, .int un, .int tm, .ref rb, .ref rn, .ref rt, .ref rk, .int kr, .ref cb, .ref cm, .ref cu, .ref ck, .int kc, .int se, .int tr, .ref mk, .ref nt, .ref kp, .ref iq, .int ka, .int wr])), (th, .inl (G.2.1, 61, .inl (tB m)))]) (wr := []) X hw (c_X8_firstMissing l G mo th ea sa lk lq lz rb rn rt rk cb cm cu ck mk nt kp iq lg un tm kr kc se tr ka wr m hm) (C := RX8) gX8_facts_X8_firstMissing (q0 := 0) rfl rfl rfl ⟨rfl, rfl⟩ (by decide +kernel) ⟨by decide, by decide⟩ rfl hl.1 rfl (Nat.le_of_ble_eq_true rfl) dX8_facts_72 ⟨by decide, by decide⟩ [0, 1] [] rfl rfl rfl rfl (by decide) (fun r w1 H locs hp hw => ?_)
    obtain ⟨rfl, rfl⟩ := hp
    have hw := hw.sub (ws' := [(mo, .inr (5, [.ref th, .ref ea, .ref sa, .ref lk, .ref lq, .ref lz, .int lg, .int un, .int tm, .ref rb, .ref rn, .ref rt, .ref rk, .int kr, .ref cb, .ref cm, .ref cu, .ref ck, .int kc, .int se, .int tr, .ref mk, .ref nt, .ref kp, .ref iq, .int ka, .int wr])), (th, .inl (G.2.1, 61, .inl (tB m)))]) [0, 1] rfl rfl
    refine W.eq (g2 := F0 mt 75 ls [.int (llN m)]) rfl ?_
    refine hret _ _ _ _ _ _ dX8_facts_75 hw ?_
    exact ⟨congrArg (fun z => some (Value.int z)) (by simp [faR, ht1_5]), rfl⟩
  by_cases ht1_6 : x = 6
  · refine lv_tableIn (tgt := 76) hx hb dX8_facts_1 (by rw [ht1_6]; decide) (by rw [ht1_6]; decide) (off := 75) (by rw [ht1_6]; rfl) (by decide) ?_
    refine lv_aload_n hx hb dX8_facts_76 rfl (lv_at hl 0 rfl) ?_
    refine xcV (n := 0) (As := []) (rest := []) (wc := [(mo, .inr (5, [.ref th, .ref ea, .ref sa, .ref lk, .ref lq, .ref lz, .int lg, .int un, .int tm, .ref rb, .ref rn, .ref rt, .ref rk, .int kr, .ref cb, .ref cm, .ref cu, .ref ck, .int kc, .int se, .int tr, .ref mk, .ref nt, .ref kp, .ref iq, .int ka, .int wr])), (th, .inl (G.2.1, 61, .inl (tB m)))]) (wr := []) X hw (c_X8_mostOften l G mo th ea sa lk lq lz rb rn rt rk cb cm cu ck mk nt kp iq lg un tm kr kc se tr ka wr m hm) (C := RX8) gX8_facts_X8_mostOften (q0 := 0) rfl rfl rfl ⟨rfl, rfl⟩ (by decide +kernel) ⟨by decide, by decide⟩ rfl hl.1 rfl (Nat.le_of_ble_eq_true rfl) dX8_facts_77 ⟨by decide, by decide⟩ [0, 1] [] rfl rfl rfl rfl (by decide) (fun r w1 H locs hp hw => ?_)
    obtain ⟨rfl, rfl⟩ := hp
    have hw := hw.sub (ws' := [(mo, .inr (5, [.ref th, .ref ea, .ref sa, .ref lk, .ref lq, .ref lz, .int lg, .int un, .int tm, .ref rb, .ref rn, .ref rt, .ref rk, .int kr, .ref cb, .ref cm, .ref cu, .ref ck, .int kc, .int se, .int tr, .ref mk, .ref nt, .ref kp, .ref iq, .int ka, .int wr])), (th, .inl (G.2.1, 61, .inl (tB m)))]) [0, 1] rfl rfl
    refine W.eq (g2 := F0 mt 80 ls [.int (moN m)]) rfl ?_
    refine hret _ _ _ _ _ _ dX8_facts_80 hw ?_
    exact ⟨congrArg (fun z => some (Value.int z)) (by simp [faR, ht1_6]), rfl⟩
  refine lv_tableOut (tgt := 81) hx hb dX8_facts_1 (tab_out7 x ht1_0 ht1_1 ht1_2 ht1_3 ht1_4 ht1_5 ht1_6) (by decide) ?_
  refine lv_bipush (v := (-2)) hx hb dX8_facts_81 (by decide) ?_
  refine hret _ _ _ _ _ _ dX8_facts_83 hw ?_
  exact ⟨congrArg (fun z => some (Value.int z)) (by simp [faR, ht1_0, ht1_1, ht1_2, ht1_3, ht1_4, ht1_5, ht1_6]), rfl⟩
