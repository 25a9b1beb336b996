set_option maxHeartbeats 4000000 in
set_option maxRecDepth 100000 in
theorem c_X8_ruler (l : Launch) (G : GG) (mo : Nat) (th : Nat) (ea : Nat) (sa : Nat) (lk : Nat) (lq : Nat) (lz : Nat) (rb : Nat) (rn : Nat) (rt : Nat) (rk : Nat) (cb : Nat) (cm : Nat) (cu : Nat) (ck : Nat) (mk : Nat) (nt : Nat) (kp : Nat) (iq : Nat) (lg : Int32) (un : Int32) (tm : Int32) (kc : Int32) (ka : Int32) (wr : Int32) (kr : Nat) (se : Nat) (tt : Nat) (mf : Nat → Int32) (nf : Nat → Int32) (rkv : Nat → Int32) (x : Int32) (v : Int32) (hkr : kr < 2 ^ 31) (hKR : KR 0 kr rkv) : CT l G yX8_ruler wsX8_ruler ({ frames := 3, cells := 0, slots := 0, locals := 74 } : Room) [.ref mo, .int x, .int v] [(mo, .inr (5, [.ref th, .ref ea, .ref sa, .ref lk, .ref lq, .ref lz, .int lg, .int un, .int tm, .ref rb, .ref rn, .ref rt, .ref rk, .int (nI kr), .ref cb, .ref cm, .ref cu, .ref ck, .int kc, .int (nI se), .int (nI tt), .ref mk, .ref nt, .ref kp, .ref iq, .int ka, .int wr])), (mk, .inl (G.2.1, 12, .inl mf)), (nt, .inl (G.2.1, 12, .inl nf)), (rb, .inl (G.2.1, 8, .inl (sbF 0 kr))), (rn, .inl (G.2.1, 8, .inl (snF 0 kr))), (rt, .inl (G.2.1, 8, .inl (stF 0 kr))), (rk, .inl (G.2.1, 96, .inl rkv))] (fun r w => ((inR 0 x && inA v) = false ∧ r = some (.int (-2)) ∧ w = [(mo, .inr (5, [.ref th, .ref ea, .ref sa, .ref lk, .ref lq, .ref lz, .int lg, .int un, .int tm, .ref rb, .ref rn, .ref rt, .ref rk, .int (nI kr), .ref cb, .ref cm, .ref cu, .ref ck, .int kc, .int (nI se), .int (nI tt), .ref mk, .ref nt, .ref kp, .ref iq, .int ka, .int wr])), (mk, .inl (G.2.1, 12, .inl mf)), (nt, .inl (G.2.1, 12, .inl nf)), (rb, .inl (G.2.1, 8, .inl (sbF 0 kr))), (rn, .inl (G.2.1, 8, .inl (snF 0 kr))), (rt, .inl (G.2.1, 8, .inl (stF 0 kr))), (rk, .inl (G.2.1, 96, .inl rkv))]) ∨ (∃ (n : Nat) (mf2 nf2 rk2 : Nat → Int32), okN 0 n ∧ x = nI n ∧ inA v = true ∧ r = some (.int (ansR 0 n v)) ∧ KR 0 (kr ||| 2 ^ n) rk2 ∧ w = [(mo, .inr (5, [.ref th, .ref ea, .ref sa, .ref lk, .ref lq, .ref lz, .int lg, .int un, .int tm, .ref rb, .ref rn, .ref rt, .ref rk, .int (nI (kr ||| 2 ^ n)), .ref cb, .ref cm, .ref cu, .ref ck, .int kc, .int (nI (if kr.testBit n = true then se else se + 1)), .int (nI (if kr.testBit n = true then tt else tt + (resT 0 n).2.2.1)), .ref mk, .ref nt, .ref kp, .ref iq, .int ka, .int wr])), (mk, .inl (G.2.1, 12, .inl mf2)), (nt, .inl (G.2.1, 12, .inl nf2)), (rb, .inl (G.2.1, 8, .inl (sbF 0 (kr ||| 2 ^ n)))), (rn, .inl (G.2.1, 8, .inl (snF 0 (kr ||| 2 ^ n)))), (rt, .inl (G.2.1, 8, .inl (stF 0 (kr ||| 2 ^ n)))), (rk, .inl (G.2.1, 96, .inl rk2))])) 0 0 := by
  refine ct_i (cc := cX8_ruler) (maxL := 3) (by decide +kernel) rfl (Nat.le_of_ble_eq_true rfl) ?_
  intro p e s mt below meth c A Q X hw hret ls hl
  obtain ⟨hx, hb, -⟩ := id X
  have hl : lv_has ls 3 [(0, .ref mo), (1, .int x), (2, .int v)] := hl
  refine lv_iload_n hx hb dX8_ruler_0 rfl (lv_at hl 1 rfl) ?_
  refine lv_i2l (v := x.toInt64) hx hb dX8_ruler_1 (by rfl) ?_
  refine xc2 X (v := 2) (by decide +kernel) dX8_ruler_2 ?_
  refine xc2 X (v := 7) (by decide +kernel) dX8_ruler_5 ?_
  refine xcP (n := 3) (As := [.long x.toInt64, .long 2, .long 7]) (rest := []) X hw (c_X8_in l G x.toInt64 2 7 ) gX8_ruler_X8_in rfl ⟨rfl, rfl⟩ (by decide +kernel) ⟨by decide, by decide⟩ rfl hl.1 rfl (Nat.le_of_ble_eq_true rfl) dX8_ruler_8 ⟨by decide, by decide⟩ (fun r w1 H locs hp hw => ?_)
  obtain rfl := hp
  refine W.eq (g2 := F0 mt 11 ls [.int (bi (inJ x.toInt64 2 7))]) rfl ?_
  refine x_cvi (y := bi (inR 0 x)) (by rw [inJ_r]) ?_
  refine lv_if_eq (tgt := 21) hx hb dX8_ruler_11 (by decide) (fun c11 => ?_) (fun c11 => ?_)
  · have hi := bi_f c11
    refine lv_bipush (v := (-2)) hx hb dX8_ruler_21 (by decide) ?_
    refine hret _ _ _ _ _ _ dX8_ruler_23 hw ?_
    exact Or.inl ⟨by simp_all, rfl, rfl⟩
  · have hi := bi_t c11
    refine lv_iload_n hx hb dX8_ruler_14 rfl (lv_at hl 2 rfl) ?_
    refine xcP (n := 1) (As := [.int v]) (rest := []) X hw (c_X8_isWhat l G v ) gX8_ruler_X8_isWhat rfl ⟨rfl, rfl⟩ (by decide +kernel) ⟨by decide, by decide⟩ rfl hl.1 rfl (Nat.le_of_ble_eq_true rfl) dX8_ruler_15 ⟨by decide, by decide⟩ (fun r w1 H locs hp hw => ?_)
    obtain rfl := hp
    refine W.eq (g2 := F0 mt 18 ls [.int (bi (inA v))]) rfl ?_
    refine lv_if_ne (tgt := 24) hx hb dX8_ruler_18 (by decide) (fun c18 => ?_) (fun c18 => ?_)
    · have hv := bi_t c18
      obtain ⟨n, hn1, hn2, rfl⟩ := inR_r hi
      have hok : okN 0 n := Or.inl ⟨rfl, hn1, hn2⟩
      have hlen : (LT 0 n).length = n := (lt_parts hok).2.2.2.1.1 rfl
      refine lv_aload_n hx hb dX8_ruler_24 rfl (lv_at hl 0 rfl) ?_
      refine lv_iload_n hx hb dX8_ruler_25 rfl (lv_at hl 1 rfl) ?_
      refine xcV (n := 1) (As := [.int (nI n)]) (rest := []) (wc := [(mo, .inr (5, [.ref th, .ref ea, .ref sa, .ref lk, .ref lq, .ref lz, .int lg, .int un, .int tm, .ref rb, .ref rn, .ref rt, .ref rk, .int (nI kr), .ref cb, .ref cm, .ref cu, .ref ck, .int kc, .int (nI se), .int (nI tt), .ref mk, .ref nt, .ref kp, .ref iq, .int ka, .int wr])), (mk, .inl (G.2.1, 12, .inl mf)), (nt, .inl (G.2.1, 12, .inl nf)), (rb, .inl (G.2.1, 8, .inl (sbF 0 kr))), (rn, .inl (G.2.1, 8, .inl (snF 0 kr))), (rt, .inl (G.2.1, 8, .inl (stF 0 kr))), (rk, .inl (G.2.1, 96, .inl rkv))]) (wr := []) X hw (c_X8_findRulers l G mo th ea sa lk lq lz rb rn rt rk cb cm cu ck mk nt kp iq lg un tm kc ka wr kr se tt mf nf rkv n hkr hn1 hn2) (C := RX8) gX8_ruler_X8_findRulers (q0 := 0) rfl rfl rfl ⟨rfl, rfl⟩ (by decide +kernel) ⟨by decide, by decide⟩ rfl hl.1 rfl (Nat.le_of_ble_eq_true rfl) dX8_ruler_26 ⟨by decide, by decide⟩ [0, 1, 2, 3, 4, 5, 6] [] rfl rfl rfl rfl (by decide) (fun r w1 H locs hp hw => ?_)
      obtain ⟨rfl, mf2, nf2, rk2, hk1, hk2, rfl⟩ := hp
      have hKR2 : KR 0 (kr ||| 2 ^ n) rk2 := KR_up hKR hk1 (fun q => ⟨(hk2 q).1, ((hk2 q).2 (fun z => by have := rr_pos hn1 hn2; have := i_eq (b := 0) this.2.1 (by decide) z; omega)).2⟩)
      have hw := hw.sub (ws' := [(mo, .inr (5, [.ref th, .ref ea, .ref sa, .ref lk, .ref lq, .ref lz, .int lg, .int un, .int tm, .ref rb, .ref rn, .ref rt, .ref rk, .int (nI (kr ||| 2 ^ n)), .ref cb, .ref cm, .ref cu, .ref ck, .int kc, .int (nI (if kr.testBit n = true then se else se + 1)), .int (nI (if kr.testBit n = true then tt else tt + (resT 0 n).2.2.1)), .ref mk, .ref nt, .ref kp, .ref iq, .int ka, .int wr])), (mk, .inl (G.2.1, 12, .inl mf2)), (nt, .inl (G.2.1, 12, .inl nf2)), (rb, .inl (G.2.1, 8, .inl (sbF 0 (kr ||| 2 ^ n)))), (rn, .inl (G.2.1, 8, .inl (snF 0 (kr ||| 2 ^ n)))), (rt, .inl (G.2.1, 8, .inl (stF 0 (kr ||| 2 ^ n)))), (rk, .inl (G.2.1, 96, .inl rk2))]) [0, 1, 2, 3, 4, 5, 6] rfl rfl
      refine W.eq (g2 := F0 mt 29 ls []) rfl ?_
      refine lv_iload_n hx hb dX8_ruler_29 rfl (lv_at hl 2 rfl) ?_
      refine lv_bipush (v := 10) hx hb dX8_ruler_30 (by decide) ?_
      refine lv_icmp_lt (tgt := 63) hx hb dX8_ruler_32 (by decide) (fun c32 => ?_) (fun c32 => ?_)
      · have h10 := c32
        refine lv_iload_n hx hb dX8_ruler_63 rfl (lv_at hl 2 rfl) ?_
        refine lv_if_ne (tgt := 76) hx hb dX8_ruler_64 (by decide) (fun c64 => ?_) (fun c64 => ?_)
        · refine lv_iload_n hx hb dX8_ruler_76 rfl (lv_at hl 2 rfl) ?_
          refine lv_iconst (v := 1) hx hb dX8_ruler_77 (by decide) ?_
          refine lv_icmp_ne (tgt := 90) hx hb dX8_ruler_78 (by decide) (fun c78 => ?_) (fun c78 => ?_)
          · refine lv_aload_n hx hb dX8_ruler_90 rfl (lv_at hl 0 rfl) ?_
            refine xg X hw (C := RX8) (T := TX8) (N := 27) (by decide +kernel) 0 rfl rfl 11 (by decide) rfl (by decide +kernel) rfl dX8_ruler_91 ?_
            refine lv_iload_n hx hb dX8_ruler_94 rfl (lv_at hl 1 rfl) ?_
            refine xia X hw 5 rfl (j := n) (rfl) (by omega) (by decide) dX8_ruler_95 ?_
            refine x_cvi (y := nI (resT 0 n).2.2.1) (by show nI (fsOf 0 (kr ||| 2 ^ n) n).2.2.1 = _; rw [fsOf_at]) ?_
            refine hret _ _ _ _ _ _ dX8_ruler_96 hw ?_
            exact Or.inr ⟨n, mf2, nf2, rk2, hok, rfl, hv, congrArg (fun z => some (Value.int z)) (by exact ans_2 0 n hv h10 c64 c78), hKR2, rfl⟩
          · refine lv_aload_n hx hb dX8_ruler_81 rfl (lv_at hl 0 rfl) ?_
            refine xg X hw (C := RX8) (T := TX8) (N := 27) (by decide +kernel) 0 rfl rfl 10 (by decide) rfl (by decide +kernel) rfl dX8_ruler_82 ?_
            refine lv_iload_n hx hb dX8_ruler_85 rfl (lv_at hl 1 rfl) ?_
            refine xia X hw 4 rfl (j := n) (rfl) (by omega) (by decide) dX8_ruler_86 ?_
            refine x_cvi (y := nI (resT 0 n).2.1) (by show nI (fsOf 0 (kr ||| 2 ^ n) n).2.1 = _; rw [fsOf_at]) ?_
            refine lv_goto (tgt := 96) hx hb dX8_ruler_87 (by decide) ?_
            refine hret _ _ _ _ _ _ dX8_ruler_96 hw ?_
            exact Or.inr ⟨n, mf2, nf2, rk2, hok, rfl, hv, congrArg (fun z => some (Value.int z)) (by exact ans_1 0 n c64 c78), hKR2, rfl⟩
        · refine lv_aload_n hx hb dX8_ruler_67 rfl (lv_at hl 0 rfl) ?_
          refine xg X hw (C := RX8) (T := TX8) (N := 27) (by decide +kernel) 0 rfl rfl 9 (by decide) rfl (by decide +kernel) rfl dX8_ruler_68 ?_
          refine lv_iload_n hx hb dX8_ruler_71 rfl (lv_at hl 1 rfl) ?_
          refine xia X hw 3 rfl (j := n) (rfl) (by omega) (by decide) dX8_ruler_72 ?_
          refine x_cvi (y := nI (resT 0 n).1) (by show nI (fsOf 0 (kr ||| 2 ^ n) n).1 = _; rw [fsOf_at]) ?_
          refine lv_goto (tgt := 96) hx hb dX8_ruler_73 (by decide) ?_
          refine hret _ _ _ _ _ _ dX8_ruler_96 hw ?_
          exact Or.inr ⟨n, mf2, nf2, rk2, hok, rfl, hv, congrArg (fun z => some (Value.int z)) (by exact ans_0 0 n c64), hKR2, rfl⟩
      · obtain ⟨w, hw1, hw2, rfl⟩ := ge10 c32
        refine lv_iload_n hx hb dX8_ruler_35 rfl (lv_at hl 2 rfl) ?_
        refine lv_bipush (v := 10) hx hb dX8_ruler_36 (by decide) ?_
        refine lv_isub hx hb dX8_ruler_38 ?_
        refine x_cvi (y := nI (w - 10)) (by exact pk_sub (b := 10) hw1) ?_
        refine lv_iload_n hx hb dX8_ruler_39 rfl (lv_at hl 1 rfl) ?_
        refine lv_icmp_ge (tgt := 60) hx hb dX8_ruler_40 (by decide) (fun c40 => ?_) (fun c40 => ?_)
        · have hj : n ≤ w - 10 := i_le (by omega) (by omega) c40
          refine lv_bipush (v := (-6)) hx hb dX8_ruler_60 (by decide) ?_
          refine hret _ _ _ _ _ _ dX8_ruler_62 hw ?_
          exact Or.inr ⟨n, mf2, nf2, rk2, hok, rfl, hv, congrArg (fun z => some (Value.int z)) (by rw [ans_10 hw1 hw2]; exact ans_none hok (by omega) (by omega)), hKR2, rfl⟩
        · have hj : w - 10 < n := i_nle (by omega) (by omega) c40
          refine lv_aload_n hx hb dX8_ruler_43 rfl (lv_at hl 0 rfl) ?_
          refine xg X hw (C := RX8) (T := TX8) (N := 27) (by decide +kernel) 0 rfl rfl 12 (by decide) rfl (by decide +kernel) rfl dX8_ruler_44 ?_
          refine lv_bipush (v := 12) hx hb dX8_ruler_47 (by decide) ?_
          refine lv_iload_n hx hb dX8_ruler_49 rfl (lv_at hl 1 rfl) ?_
          refine lv_imul hx hb dX8_ruler_50 ?_
          refine x_cvi (y := nI (12 * n)) (by exact pk_mul 12 n) ?_
          refine lv_iload_n hx hb dX8_ruler_51 rfl (lv_at hl 2 rfl) ?_
          refine lv_iadd hx hb dX8_ruler_52 ?_
          refine x_cvi (y := nI (12 * n + w)) (by exact nI_add _ _) ?_
          refine lv_bipush (v := 10) hx hb dX8_ruler_53 (by decide) ?_
          refine lv_isub hx hb dX8_ruler_55 ?_
          refine x_cvi (y := nI (12 * n + (w - 10))) (by rw [show 12 * n + (w - 10) = 12 * n + w - 10 by omega]; exact pk_sub (b := 10) (by omega)) ?_
          refine xia X hw 6 rfl (j := (12 * n + (w - 10))) (rfl) (by omega) (by decide) dX8_ruler_56 ?_
          refine lv_goto (tgt := 62) hx hb dX8_ruler_57 (by decide) ?_
          refine hret _ _ _ _ _ _ dX8_ruler_62 hw ?_
          exact Or.inr ⟨n, mf2, nf2, rk2, hok, rfl, hv, congrArg (fun z => some (Value.int z)) (by rw [ans_10 hw1 hw2]; exact ans_mark hok (hKR2 n hok (by rw [or_tb]; simp)) (by omega)), hKR2, rfl⟩
    · have hv := bi_f c18
      refine lv_bipush (v := (-2)) hx hb dX8_ruler_21 (by decide) ?_
      refine hret _ _ _ _ _ _ dX8_ruler_23 hw ?_
      exact Or.inl ⟨by simp_all, rfl, rfl⟩
