set_option maxHeartbeats 4000000 in
set_option maxRecDepth 100000 in
theorem c_X8_stand0 (l : Launch) (G : GG) (mo : Nat) (th : Nat) (ea : Nat) (sa : Nat) (lk : Nat) (lq : Nat) (lz : Nat) (rb : Nat) (rn : Nat) (rt : Nat) (rk : Nat) (cb : Nat) (cm : Nat) (cu : Nat) (ck : Nat) (mk : Nat) (nt : Nat) (kp : Nat) (iq : Nat) (lg : Int32) (un : Int32) (tm : Int32) (kc : Int32) (ka : Int32) (wr : Int32) (kr : Nat) (se : Nat) (tt : Nat) (mf : Nat → Int32) (nf : Nat → Int32) (rkv : Nat → Int32) (m : Nat) (em : Nat → Int32) (x : Int32) (v : Int32) (hkr : kr < 2 ^ 31) (hKR : KR 0 kr rkv) (hm : m < 2 ^ 61) : CT l G yX8_stand wsX8_stand ({ frames := 3, cells := 0, slots := 0, locals := 75 } : Room) [.ref mo, .int 0, .int x, .int v] [(mo, .inr (5, [.ref th, .ref ea, .ref sa, .ref lk, .ref lq, .ref lz, .int lg, .int un, .int tm, .ref rb, .ref rn, .ref rt, .ref rk, .int (nI kr), .ref cb, .ref cm, .ref cu, .ref ck, .int kc, .int (nI se), .int (nI tt), .ref mk, .ref nt, .ref kp, .ref iq, .int ka, .int wr])), (mk, .inl (G.2.1, 12, .inl mf)), (nt, .inl (G.2.1, 12, .inl nf)), (rb, .inl (G.2.1, 8, .inl (sbF 0 kr))), (rn, .inl (G.2.1, 8, .inl (snF 0 kr))), (rt, .inl (G.2.1, 8, .inl (stF 0 kr))), (rk, .inl (G.2.1, 96, .inl rkv)), (th, .inl (G.2.1, 61, .inl (tB m))), (ea, .inl (G.2.1, 61, .inl em))] (fun r w => ((inR 0 x && inS v) = false ∧ r = some (.int (-2)) ∧ w = [(mo, .inr (5, [.ref th, .ref ea, .ref sa, .ref lk, .ref lq, .ref lz, .int lg, .int un, .int tm, .ref rb, .ref rn, .ref rt, .ref rk, .int (nI kr), .ref cb, .ref cm, .ref cu, .ref ck, .int kc, .int (nI se), .int (nI tt), .ref mk, .ref nt, .ref kp, .ref iq, .int ka, .int wr])), (mk, .inl (G.2.1, 12, .inl mf)), (nt, .inl (G.2.1, 12, .inl nf)), (rb, .inl (G.2.1, 8, .inl (sbF 0 kr))), (rn, .inl (G.2.1, 8, .inl (snF 0 kr))), (rt, .inl (G.2.1, 8, .inl (stF 0 kr))), (rk, .inl (G.2.1, 96, .inl rkv)), (th, .inl (G.2.1, 61, .inl (tB m))), (ea, .inl (G.2.1, 61, .inl em))]) ∨ (∃ (n b : Nat) (mf2 nf2 rk2 : Nat → Int32), okN 0 n ∧ x = nI n ∧ v = nI b ∧ b ≤ 60 ∧ KR 0 (kr ||| 2 ^ n) rk2 ∧ ((60 < spN (resT 0 n).2.2.2 + b ∧ r = some (.int (-5)) ∧ w = [(mo, .inr (5, [.ref th, .ref ea, .ref sa, .ref lk, .ref lq, .ref lz, .int lg, .int un, .int tm, .ref rb, .ref rn, .ref rt, .ref rk, .int (nI (kr ||| 2 ^ n)), .ref cb, .ref cm, .ref cu, .ref ck, .int kc, .int (nI (if kr.testBit n = true then se else se + 1)), .int (nI (if kr.testBit n = true then tt else tt + (resT 0 n).2.2.1)), .ref mk, .ref nt, .ref kp, .ref iq, .int ka, .int wr])), (mk, .inl (G.2.1, 12, .inl mf2)), (nt, .inl (G.2.1, 12, .inl nf2)), (rb, .inl (G.2.1, 8, .inl (sbF 0 (kr ||| 2 ^ n)))), (rn, .inl (G.2.1, 8, .inl (snF 0 (kr ||| 2 ^ n)))), (rt, .inl (G.2.1, 8, .inl (stF 0 (kr ||| 2 ^ n)))), (rk, .inl (G.2.1, 96, .inl rk2)), (th, .inl (G.2.1, 61, .inl (tB m))), (ea, .inl (G.2.1, 61, .inl em))]) ∨ (spN (resT 0 n).2.2.2 + b ≤ 60 ∧ r = some (.int (nI (pcN 64 ((resT 0 n).2.2.2 * 2 ^ b)))) ∧ w = [(mo, .inr (5, [.ref th, .ref ea, .ref sa, .ref lk, .ref lq, .ref lz, .int (nI 0), .int un, .int tm, .ref rb, .ref rn, .ref rt, .ref rk, .int (nI (kr ||| 2 ^ n)), .ref cb, .ref cm, .ref cu, .ref ck, .int kc, .int (nI (if kr.testBit n = true then se else se + 1)), .int (nI (if kr.testBit n = true then tt else tt + (resT 0 n).2.2.1)), .ref mk, .ref nt, .ref kp, .ref iq, .int ka, .int wr])), (mk, .inl (G.2.1, 12, .inl mf2)), (nt, .inl (G.2.1, 12, .inl nf2)), (rb, .inl (G.2.1, 8, .inl (sbF 0 (kr ||| 2 ^ n)))), (rn, .inl (G.2.1, 8, .inl (snF 0 (kr ||| 2 ^ n)))), (rt, .inl (G.2.1, 8, .inl (stF 0 (kr ||| 2 ^ n)))), (rk, .inl (G.2.1, 96, .inl rk2)), (th, .inl (G.2.1, 61, .inl (tB ((resT 0 n).2.2.2 * 2 ^ b)))), (ea, .inl (G.2.1, 61, .inl (fa_fill (fun _ => 0) em 61)))])))) 0 0 := by
  refine ct_i (cc := cX8_stand) (maxL := 7) (by decide +kernel) rfl (Nat.le_of_ble_eq_true rfl) ?_
  intro p e s mt below meth c A Q X hw hret ls hl
  obtain ⟨hx, hb, -⟩ := id X
  have hl : lv_has ls 7 [(0, .ref mo), (1, .int 0), (2, .int x), (3, .int v)] := hl
  refine lv_iload_n hx hb dX8_stand_0 rfl (lv_at hl 1 rfl) ?_
  refine lv_i2l (v := 0) hx hb dX8_stand_1 (by decide) ?_
  refine lv_lconst (v := 0) hx hb dX8_stand_2 (by decide) ?_
  refine lv_lconst (v := 1) hx hb dX8_stand_3 (by decide) ?_
  refine xcP (n := 3) (As := [.long 0, .long 0, .long 1]) (rest := []) X hw (c_X8_in l G 0 0 1 ) gX8_stand_X8_in rfl ⟨rfl, rfl⟩ (by decide +kernel) ⟨by decide, by decide⟩ rfl hl.1 rfl (Nat.le_of_ble_eq_true rfl) dX8_stand_4 ⟨by decide, by decide⟩ (fun r w1 H locs hp hw => ?_)
  obtain rfl := hp
  refine W.eq (g2 := F0 mt 7 ls [.int (bi (inJ 0 0 1))]) rfl ?_
  refine x_cvi (y := 1) (by decide) ?_
  refine lv_if_eq (tgt := 57) hx hb dX8_stand_7 (by decide) (fun c7 => ?_) (fun c7 => ?_)
  · exact absurd c7 (by decide)
  · skip
    refine lv_iload_n hx hb dX8_stand_10 rfl (lv_at hl 1 rfl) ?_
    refine lv_if_ne (tgt := 28) hx hb dX8_stand_11 (by decide) (fun c11 => ?_) (fun c11 => ?_)
    · exact absurd rfl c11
    · skip
      refine lv_iload_n hx hb dX8_stand_14 rfl (lv_at hl 2 rfl) ?_
      refine lv_i2l (v := x.toInt64) hx hb dX8_stand_15 (by rfl) ?_
      refine xc2 X (v := 2) (by decide +kernel) dX8_stand_16 ?_
      refine xc2 X (v := 7) (by decide +kernel) dX8_stand_19 ?_
      refine xcP (n := 3) (As := [.long x.toInt64, .long 2, .long 7]) (rest := []) X hw (c_X8_in l G x.toInt64 2 7 ) gX8_stand_X8_in rfl ⟨rfl, rfl⟩ (by decide +kernel) ⟨by decide, by decide⟩ rfl hl.1 rfl (Nat.le_of_ble_eq_true rfl) dX8_stand_22 ⟨by decide, by decide⟩ (fun r w1 H locs hp hw => ?_)
      obtain rfl := hp
      refine W.eq (g2 := F0 mt 25 ls [.int (bi (inJ x.toInt64 2 7))]) rfl ?_
      refine x_cvi (y := bi (inR 0 x)) (by rw [inJ_r]) ?_
      refine lv_if_eq (tgt := 57) hx hb dX8_stand_25 (by decide) (fun c25 => ?_) (fun c25 => ?_)
      · have hi := bi_f c25
        refine lv_bipush (v := (-2)) hx hb dX8_stand_57 (by decide) ?_
        refine hret _ _ _ _ _ _ dX8_stand_59 hw ?_
        exact Or.inl ⟨by simp_all, rfl, rfl⟩
      · have hi := bi_t c25
        refine lv_iload_n hx hb dX8_stand_28 rfl (lv_at hl 1 rfl) ?_
        refine lv_iconst (v := 1) hx hb dX8_stand_29 (by decide) ?_
        refine lv_icmp_ne (tgt := 45) hx hb dX8_stand_30 (by decide) (fun c30 => ?_) (fun c30 => ?_)
        · skip
          refine lv_iload_n hx hb dX8_stand_45 rfl (lv_at hl 3 rfl) ?_
          refine lv_i2l (v := v.toInt64) hx hb dX8_stand_46 (by rfl) ?_
          refine lv_lconst (v := 0) hx hb dX8_stand_47 (by decide) ?_
          refine xc2 X (v := 60) (by decide +kernel) dX8_stand_48 ?_
          refine xcP (n := 3) (As := [.long v.toInt64, .long 0, .long 60]) (rest := []) X hw (c_X8_in l G v.toInt64 0 60 ) gX8_stand_X8_in rfl ⟨rfl, rfl⟩ (by decide +kernel) ⟨by decide, by decide⟩ rfl hl.1 rfl (Nat.le_of_ble_eq_true rfl) dX8_stand_51 ⟨by decide, by decide⟩ (fun r w1 H locs hp hw => ?_)
          obtain rfl := hp
          refine W.eq (g2 := F0 mt 54 ls [.int (bi (inJ v.toInt64 0 60))]) rfl ?_
          refine x_cvi (y := bi (inS v)) (by rw [inJ_S]) ?_
          refine lv_if_ne (tgt := 60) hx hb dX8_stand_54 (by decide) (fun c54 => ?_) (fun c54 => ?_)
          · have hv := bi_t c54
            obtain ⟨n, hn1, hn2, rfl⟩ := inR_r hi
            have hok : okN 0 n := Or.inl ⟨rfl, hn1, hn2⟩
            have hlen : (LT 0 n).length = n := (lt_parts hok).2.2.2.1.1 rfl
            have hl12 := (lt_parts hok).1
            have hspn : spN (resT 0 n).2.2.2 = (resT 0 n).1 := (lt_parts hok).2.2.2.2.1.1 rfl
            have hsp60 := spN_le (resT 0 n).2.2.2
            obtain ⟨b, hb60, rfl⟩ := inS_of hv
            refine lv_iload_n hx hb dX8_stand_60 rfl (lv_at hl 1 rfl) ?_
            refine lv_if_ne (tgt := 72) hx hb dX8_stand_61 (by decide) (fun c61 => ?_) (fun c61 => ?_)
            · exact absurd rfl c61
            · skip
              refine lv_aload_n hx hb dX8_stand_64 rfl (lv_at hl 0 rfl) ?_
              refine lv_iload_n hx hb dX8_stand_65 rfl (lv_at hl 2 rfl) ?_
              refine xcV (n := 1) (As := [.int (nI n)]) (rest := []) (wc := [(mo, .inr (5, [.ref th, .ref ea, .ref sa, .ref lk, .ref lq, .ref lz, .int lg, .int un, .int tm, .ref rb, .ref rn, .ref rt, .ref rk, .int (nI kr), .ref cb, .ref cm, .ref cu, .ref ck, .int kc, .int (nI se), .int (nI tt), .ref mk, .ref nt, .ref kp, .ref iq, .int ka, .int wr])), (mk, .inl (G.2.1, 12, .inl mf)), (nt, .inl (G.2.1, 12, .inl nf)), (rb, .inl (G.2.1, 8, .inl (sbF 0 kr))), (rn, .inl (G.2.1, 8, .inl (snF 0 kr))), (rt, .inl (G.2.1, 8, .inl (stF 0 kr))), (rk, .inl (G.2.1, 96, .inl rkv))]) (wr := [(th, .inl (G.2.1, 61, .inl (tB m))), (ea, .inl (G.2.1, 61, .inl em))]) X hw (c_X8_findRulers l G mo th ea sa lk lq lz rb rn rt rk cb cm cu ck mk nt kp iq lg un tm kc ka wr kr se tt mf nf rkv n hkr hn1 hn2) (C := RX8) gX8_stand_X8_findRulers (q0 := 0) rfl rfl rfl ⟨rfl, rfl⟩ (by decide +kernel) ⟨by decide, by decide⟩ rfl hl.1 rfl (Nat.le_of_ble_eq_true rfl) dX8_stand_66 ⟨by decide, by decide⟩ [0, 1, 2, 3, 4, 5, 6] [7, 8] rfl rfl rfl rfl (by decide) (fun r w1 H locs hp hw => ?_)
              obtain ⟨rfl, mf2, nf2, rk2, hk1, hk2, rfl⟩ := hp
              have hKR2 : KR 0 (kr ||| 2 ^ n) rk2 := KR_up hKR hk1 (fun q => ⟨(hk2 q).1, ((hk2 q).2 (fun z => by have := rr_pos hn1 hn2; have := i_eq (b := 0) this.2.1 (by decide) z; omega)).2⟩)
              have hw := hw.sub (ws' := [(mo, .inr (5, [.ref th, .ref ea, .ref sa, .ref lk, .ref lq, .ref lz, .int lg, .int un, .int tm, .ref rb, .ref rn, .ref rt, .ref rk, .int (nI (kr ||| 2 ^ n)), .ref cb, .ref cm, .ref cu, .ref ck, .int kc, .int (nI (if kr.testBit n = true then se else se + 1)), .int (nI (if kr.testBit n = true then tt else tt + (resT 0 n).2.2.1)), .ref mk, .ref nt, .ref kp, .ref iq, .int ka, .int wr])), (mk, .inl (G.2.1, 12, .inl mf2)), (nt, .inl (G.2.1, 12, .inl nf2)), (rb, .inl (G.2.1, 8, .inl (sbF 0 (kr ||| 2 ^ n)))), (rn, .inl (G.2.1, 8, .inl (snF 0 (kr ||| 2 ^ n)))), (rt, .inl (G.2.1, 8, .inl (stF 0 (kr ||| 2 ^ n)))), (rk, .inl (G.2.1, 96, .inl rk2)), (th, .inl (G.2.1, 61, .inl (tB m))), (ea, .inl (G.2.1, 61, .inl em))]) [2, 3, 4, 5, 6, 7, 8, 0, 1] rfl rfl
              refine W.eq (g2 := F0 mt 69 ls []) rfl ?_
              refine lv_goto (tgt := 77) hx hb dX8_stand_69 (by decide) ?_
              refine lv_iload_n hx hb dX8_stand_77 rfl (lv_at hl 1 rfl) ?_
              refine lv_if_ne (tgt := 85) hx hb dX8_stand_78 (by decide) (fun c78 => ?_) (fun c78 => ?_)
              · exact absurd rfl c78
              · skip
                refine lv_iload_n hx hb dX8_stand_81 rfl (lv_at hl 2 rfl) ?_
                refine lv_goto (tgt := 91) hx hb dX8_stand_82 (by decide) ?_
                refine lv_istore (lv' := [(4, .int (nI n)), (0, .ref mo), (1, .int 0), (2, .int (nI n)), (3, .int (nI b))]) hx hb dX8_stand_91 hl (by decide) rfl (fun ls hl => ?_)
                refine lv_iload_n hx hb dX8_stand_93 rfl (lv_at hl 2 rfl) ?_
                refine lv_if_ne (tgt := 106) hx hb dX8_stand_94 (by decide) (fun c94 => ?_) (fun c94 => ?_)
                · exact absurd rfl c94
                · skip
                  refine lv_aload_n hx hb dX8_stand_97 rfl (lv_at hl 1 rfl) ?_
                  refine xg X hw (C := RX8) (T := TX8) (N := 27) (by decide +kernel) 0 rfl rfl 9 (by decide) rfl (by decide +kernel) rfl dX8_stand_98 ?_
                  refine lv_iload_n hx hb dX8_stand_101 rfl (lv_at hl 3 rfl) ?_
                  refine xia X hw 3 rfl (j := n) (rfl) (by omega) (by decide) dX8_stand_102 ?_
                  refine x_cvi (y := nI (resT 0 n).1) (by show nI (fsOf 0 (kr ||| 2 ^ n) n).1 = _; rw [fsOf_at]) ?_
                  refine lv_goto (tgt := 107) hx hb dX8_stand_103 (by decide) ?_
                  refine lv_istore (lv' := [(5, .int (nI (resT 0 n).1)), (4, .int (nI n)), (0, .ref mo), (1, .int 0), (2, .int (nI n)), (3, .int (nI b))]) hx hb dX8_stand_107 hl (by decide) rfl (fun ls hl => ?_)
                  refine lv_iload hx hb dX8_stand_109 (lv_at hl 0 rfl) ?_
                  refine lv_iload_n hx hb dX8_stand_111 rfl (lv_at hl 5 rfl) ?_
                  refine lv_iadd hx hb dX8_stand_112 ?_
                  refine x_cvi (y := nI ((resT 0 n).1 + b)) (by exact nI_add _ _) ?_
                  refine lv_bipush (v := 60) hx hb dX8_stand_113 (by decide) ?_
                  refine lv_icmp_le (tgt := 121) hx hb dX8_stand_115 (by decide) (fun c115 => ?_) (fun c115 => ?_)
                  · have hle : spN (resT 0 n).2.2.2 + b ≤ 60 := by rw [hspn]; exact i_le (b := 60) (by omega) (by decide) c115
                    refine lv_iconst (v := 0) hx hb dX8_stand_121 (by decide) ?_
                    refine x_cvi (y := nI 0) (by rfl) ?_
                    refine lv_istore (lv' := [(6, .int (nI 0)), (5, .int (nI (resT 0 n).1)), (4, .int (nI n)), (0, .ref mo), (1, .int 0), (2, .int (nI n)), (3, .int (nI b))]) hx hb dX8_stand_122 hl (by decide) rfl (fun ls hl => ?_)
                    have lp124 : ∀ (fu : Nat) (q : Nat) (H : Heap) (locs : List Loc) (ls : Array Slot), 62 - q < fu → (q ≤ 61) → WS G A s.heap H locs [(mo, .inr (5, [.ref th, .ref ea, .ref sa, .ref lk, .ref lq, .ref lz, .int lg, .int un, .int tm, .ref rb, .ref rn, .ref rt, .ref rk, .int (nI (kr ||| 2 ^ n)), .ref cb, .ref cm, .ref cu, .ref ck, .int kc, .int (nI (if kr.testBit n = true then se else se + 1)), .int (nI (if kr.testBit n = true then tt else tt + (resT 0 n).2.2.1)), .ref mk, .ref nt, .ref kp, .ref iq, .int ka, .int wr])), (mk, .inl (G.2.1, 12, .inl mf2)), (nt, .inl (G.2.1, 12, .inl nf2)), (rb, .inl (G.2.1, 8, .inl (sbF 0 (kr ||| 2 ^ n)))), (rn, .inl (G.2.1, 8, .inl (snF 0 (kr ||| 2 ^ n)))), (rt, .inl (G.2.1, 8, .inl (stF 0 (kr ||| 2 ^ n)))), (rk, .inl (G.2.1, 96, .inl rk2)), (th, .inl (G.2.1, 61, .inl (fa_fill (fun _ => 0) (tB m) q))), (ea, .inl (G.2.1, 61, .inl (fa_fill (fun _ => 0) em q)))] → lv_has ls 7 [(0, .ref mo), (1, .int 0), (2, .int (nI n)), (3, .int (nI b)), (4, .int (nI n)), (5, .int (nI (resT 0 n).1)), (6, .int (nI q))] → W p l e ({ frames := 3, cells := 0, slots := 0, locals := 75 } : Room) s mt ([.ref mo, .int 0, .int (nI n), .int (nI b)] : List Value).toArray below meth c H locs 0 0 Q (F0 mt 124 ls []) := by
                      intro fu
                      induction fu with
                      | zero =>
                        intro q H locs ls hmu
                        exact absurd hmu (Nat.not_lt_zero _)
                      | succ fu ih124 =>
                        intro q H locs ls hmu124 hq hw hl
                        refine lv_iload hx hb dX8_stand_124 (lv_at hl 6 rfl) ?_
                        refine lv_bipush (v := 60) hx hb dX8_stand_126 (by decide) ?_
                        refine lv_icmp_gt (tgt := 153) hx hb dX8_stand_128 (by decide) (fun c128 => ?_) (fun c128 => ?_)
                        · have hk2 : 60 < q := i_lt (by decide) (by omega) c128
                          refine lv_iconst (v := 0) hx hb dX8_stand_153 (by decide) ?_
                          refine x_cvi (y := nI 0) (by rfl) ?_
                          refine lv_istore (lv' := [(6, .int (nI 0)), (0, .ref mo), (1, .int 0), (2, .int (nI n)), (3, .int (nI b)), (4, .int (nI n)), (5, .int (nI (resT 0 n).1))]) hx hb dX8_stand_154 hl (by decide) rfl (fun ls hl => ?_)
                          have lp156 : ∀ (fu : Nat) (k : Nat) (H : Heap) (locs : List Loc) (ls : Array Slot), 13 - k < fu → (k ≤ (LT 0 n).length) → WS G A s.heap H locs [(mo, .inr (5, [.ref th, .ref ea, .ref sa, .ref lk, .ref lq, .ref lz, .int lg, .int un, .int tm, .ref rb, .ref rn, .ref rt, .ref rk, .int (nI (kr ||| 2 ^ n)), .ref cb, .ref cm, .ref cu, .ref ck, .int kc, .int (nI (if kr.testBit n = true then se else se + 1)), .int (nI (if kr.testBit n = true then tt else tt + (resT 0 n).2.2.1)), .ref mk, .ref nt, .ref kp, .ref iq, .int ka, .int wr])), (mk, .inl (G.2.1, 12, .inl mf2)), (nt, .inl (G.2.1, 12, .inl nf2)), (rb, .inl (G.2.1, 8, .inl (sbF 0 (kr ||| 2 ^ n)))), (rn, .inl (G.2.1, 8, .inl (snF 0 (kr ||| 2 ^ n)))), (rt, .inl (G.2.1, 8, .inl (stF 0 (kr ||| 2 ^ n)))), (rk, .inl (G.2.1, 96, .inl rk2)), (th, .inl (G.2.1, 61, .inl (stW (LT 0 n) b (fun _ => 0) k))), (ea, .inl (G.2.1, 61, .inl (fa_fill (fun _ => 0) em 61)))] → lv_has ls 7 [(0, .ref mo), (1, .int 0), (2, .int (nI n)), (3, .int (nI b)), (4, .int (nI n)), (5, .int (nI (resT 0 n).1)), (6, .int (nI k))] → W p l e ({ frames := 3, cells := 0, slots := 0, locals := 75 } : Room) s mt ([.ref mo, .int 0, .int (nI n), .int (nI b)] : List Value).toArray below meth c H locs 0 0 Q (F0 mt 156 ls []) := by
                            intro fu
                            induction fu with
                            | zero =>
                              intro k H locs ls hmu
                              exact absurd hmu (Nat.not_lt_zero _)
                            | succ fu ih156 =>
                              intro k H locs ls hmu156 hk hw hl
                              refine lv_iload hx hb dX8_stand_156 (lv_at hl 6 rfl) ?_
                              refine lv_iload hx hb dX8_stand_158 (lv_at hl 4 rfl) ?_
                              refine lv_icmp_ge (tgt := 208) hx hb dX8_stand_160 (by decide) (fun c160 => ?_) (fun c160 => ?_)
                              · have hk2 : (LT 0 n).length ≤ k := by rw [hlen]; exact i_le (by omega) (by omega) c160
                                refine lv_aload_n hx hb dX8_stand_208 rfl (lv_at hl 0 rfl) ?_
                                refine lv_iconst (v := 0) hx hb dX8_stand_209 (by decide) ?_
                                refine x_cvi (y := nI 0) (by rfl) ?_
                                refine xp X hw (C := RX8) (ty := .int) (T := TX8) (N := 27) (by decide +kernel) tyX8 tyX8_ok nmX8 0 rfl rfl 6 (by decide) rfl (by decide +kernel) rfl (by decide +kernel) rfl rfl (Nat.le_of_ble_eq_true rfl) dX8_stand_210 (ws' := [(mo, .inr (5, [.ref th, .ref ea, .ref sa, .ref lk, .ref lq, .ref lz, .int (nI 0), .int un, .int tm, .ref rb, .ref rn, .ref rt, .ref rk, .int (nI (kr ||| 2 ^ n)), .ref cb, .ref cm, .ref cu, .ref ck, .int kc, .int (nI (if kr.testBit n = true then se else se + 1)), .int (nI (if kr.testBit n = true then tt else tt + (resT 0 n).2.2.1)), .ref mk, .ref nt, .ref kp, .ref iq, .int ka, .int wr])), (mk, .inl (G.2.1, 12, .inl mf2)), (nt, .inl (G.2.1, 12, .inl nf2)), (rb, .inl (G.2.1, 8, .inl (sbF 0 (kr ||| 2 ^ n)))), (rn, .inl (G.2.1, 8, .inl (snF 0 (kr ||| 2 ^ n)))), (rt, .inl (G.2.1, 8, .inl (stF 0 (kr ||| 2 ^ n)))), (rk, .inl (G.2.1, 96, .inl rk2)), (th, .inl (G.2.1, 61, .inl (stW (LT 0 n) b (fun _ => 0) k))), (ea, .inl (G.2.1, 61, .inl (fa_fill (fun _ => 0) em 61)))]) rfl (fun H locs hw => ?_)
                                refine lv_iload hx hb dX8_stand_213 (lv_at hl 4 rfl) ?_
                                refine hret _ _ _ _ _ _ dX8_stand_215 hw ?_
                                refine Or.inr ⟨n, b, mf2, nf2, rk2, hok, rfl, rfl, hb60, hKR2, Or.inr ⟨hle, by rw [stand_n hok hle, hlen], ?_⟩⟩
                                have hkL : k = (LT 0 n).length := by omega
                                rw [hkL, stand_tB hok hle]
                              · have hk2 : k < (LT 0 n).length := by rw [hlen]; exact i_nle (by omega) (by omega) c160
                                have hat := lt_le hok hk2
                                refine lv_aload_n hx hb dX8_stand_163 rfl (lv_at hl 0 rfl) ?_
                                refine xg X hw (C := RX8) (T := TX8) (N := 27) (by decide +kernel) 0 rfl rfl 0 (by decide) rfl (by decide +kernel) rfl dX8_stand_164 ?_
                                refine lv_iload_n hx hb dX8_stand_167 rfl (lv_at hl 3 rfl) ?_
                                refine lv_iload_n hx hb dX8_stand_168 rfl (lv_at hl 1 rfl) ?_
                                refine lv_if_ne (tgt := 187) hx hb dX8_stand_169 (by decide) (fun c169 => ?_) (fun c169 => ?_)
                                · exact absurd rfl c169
                                · skip
                                  refine lv_aload_n hx hb dX8_stand_172 rfl (lv_at hl 0 rfl) ?_
                                  refine xg X hw (C := RX8) (T := TX8) (N := 27) (by decide +kernel) 0 rfl rfl 12 (by decide) rfl (by decide +kernel) rfl dX8_stand_173 ?_
                                  refine lv_bipush (v := 12) hx hb dX8_stand_176 (by decide) ?_
                                  refine lv_iload_n hx hb dX8_stand_178 rfl (lv_at hl 2 rfl) ?_
                                  refine lv_imul hx hb dX8_stand_179 ?_
                                  refine x_cvi (y := nI (12 * n)) (by exact pk_mul 12 n) ?_
                                  refine lv_iload hx hb dX8_stand_180 (lv_at hl 6 rfl) ?_
                                  refine lv_iadd hx hb dX8_stand_182 ?_
                                  refine x_cvi (y := nI (12 * n + k)) (by exact nI_add _ _) ?_
                                  refine xia X hw 6 rfl (j := (12 * n + k)) (rfl) (by omega) (by decide) dX8_stand_183 ?_
                                  refine x_cvi (y := nI (atL (LT 0 n) k)) (by exact hKR2 n hok (by rw [or_tb]; simp) k (by omega)) ?_
                                  refine lv_goto (tgt := 199) hx hb dX8_stand_184 (by decide) ?_
                                  refine lv_iadd hx hb dX8_stand_199 ?_
                                  refine x_cvi (y := nI (b + atL (LT 0 n) k)) (by exact nI_add _ _) ?_
                                  refine lv_iconst (v := 1) hx hb dX8_stand_200 (by decide) ?_
                                  refine xis X hw 7 rfl (j := (b + atL (LT 0 n) k)) (rfl) (by omega) (by decide) dX8_stand_201 (ws' := [(mo, .inr (5, [.ref th, .ref ea, .ref sa, .ref lk, .ref lq, .ref lz, .int lg, .int un, .int tm, .ref rb, .ref rn, .ref rt, .ref rk, .int (nI (kr ||| 2 ^ n)), .ref cb, .ref cm, .ref cu, .ref ck, .int kc, .int (nI (if kr.testBit n = true then se else se + 1)), .int (nI (if kr.testBit n = true then tt else tt + (resT 0 n).2.2.1)), .ref mk, .ref nt, .ref kp, .ref iq, .int ka, .int wr])), (mk, .inl (G.2.1, 12, .inl mf2)), (nt, .inl (G.2.1, 12, .inl nf2)), (rb, .inl (G.2.1, 8, .inl (sbF 0 (kr ||| 2 ^ n)))), (rn, .inl (G.2.1, 8, .inl (snF 0 (kr ||| 2 ^ n)))), (rt, .inl (G.2.1, 8, .inl (stF 0 (kr ||| 2 ^ n)))), (rk, .inl (G.2.1, 96, .inl rk2)), (th, .inl (G.2.1, 61, .inl (upd (stW (LT 0 n) b (fun _ => 0) k) (b + atL (LT 0 n) k) 1))), (ea, .inl (G.2.1, 61, .inl (fa_fill (fun _ => 0) em 61)))]) rfl (fun H locs hw => ?_)
                                  rw [stW_s] at hw
                                  refine lv_iinc (v := nI (k + 1)) (lv' := [(6, .int (nI (k + 1))), (0, .ref mo), (1, .int 0), (2, .int (nI n)), (3, .int (nI b)), (4, .int (nI n)), (5, .int (nI (resT 0 n).1))]) hx hb dX8_stand_202 hl (k := 6) rfl (by exact nI_1 _) (by decide) rfl (fun ls hl => ?_)
                                  refine lv_goto (tgt := 156) hx hb dX8_stand_205 (by decide) ?_
                                  exact ih156 (k + 1) _ _ _ (by omega) (by omega) hw (lv_sub hl [1, 2, 3, 4, 5, 6, 0] rfl)
                          have hq61 : q = 61 := by omega
                          rw [hq61, fill0 hm] at hw
                          have hw : WS G A s.heap H locs [(mo, .inr (5, [.ref th, .ref ea, .ref sa, .ref lk, .ref lq, .ref lz, .int lg, .int un, .int tm, .ref rb, .ref rn, .ref rt, .ref rk, .int (nI (kr ||| 2 ^ n)), .ref cb, .ref cm, .ref cu, .ref ck, .int kc, .int (nI (if kr.testBit n = true then se else se + 1)), .int (nI (if kr.testBit n = true then tt else tt + (resT 0 n).2.2.1)), .ref mk, .ref nt, .ref kp, .ref iq, .int ka, .int wr])), (mk, .inl (G.2.1, 12, .inl mf2)), (nt, .inl (G.2.1, 12, .inl nf2)), (rb, .inl (G.2.1, 8, .inl (sbF 0 (kr ||| 2 ^ n)))), (rn, .inl (G.2.1, 8, .inl (snF 0 (kr ||| 2 ^ n)))), (rt, .inl (G.2.1, 8, .inl (stF 0 (kr ||| 2 ^ n)))), (rk, .inl (G.2.1, 96, .inl rk2)), (th, .inl (G.2.1, 61, .inl (stW (LT 0 n) b (fun _ => 0) 0))), (ea, .inl (G.2.1, 61, .inl (fa_fill (fun _ => 0) em 61)))] := hw
                          exact lp156 _ 0 _ _ _ (Nat.lt_succ_self _) (by omega) hw (lv_sub hl [1, 2, 3, 4, 5, 6, 0] rfl)
                        · have hk2 : q ≤ 60 := i_nlt (by decide) (by omega) c128
                          refine lv_aload_n hx hb dX8_stand_131 rfl (lv_at hl 0 rfl) ?_
                          refine xg X hw (C := RX8) (T := TX8) (N := 27) (by decide +kernel) 0 rfl rfl 0 (by decide) rfl (by decide +kernel) rfl dX8_stand_132 ?_
                          refine lv_iload hx hb dX8_stand_135 (lv_at hl 6 rfl) ?_
                          refine lv_iconst (v := 0) hx hb dX8_stand_137 (by decide) ?_
                          refine xis X hw 7 rfl (j := q) (rfl) (by omega) (by decide) dX8_stand_138 (ws' := [(mo, .inr (5, [.ref th, .ref ea, .ref sa, .ref lk, .ref lq, .ref lz, .int lg, .int un, .int tm, .ref rb, .ref rn, .ref rt, .ref rk, .int (nI (kr ||| 2 ^ n)), .ref cb, .ref cm, .ref cu, .ref ck, .int kc, .int (nI (if kr.testBit n = true then se else se + 1)), .int (nI (if kr.testBit n = true then tt else tt + (resT 0 n).2.2.1)), .ref mk, .ref nt, .ref kp, .ref iq, .int ka, .int wr])), (mk, .inl (G.2.1, 12, .inl mf2)), (nt, .inl (G.2.1, 12, .inl nf2)), (rb, .inl (G.2.1, 8, .inl (sbF 0 (kr ||| 2 ^ n)))), (rn, .inl (G.2.1, 8, .inl (snF 0 (kr ||| 2 ^ n)))), (rt, .inl (G.2.1, 8, .inl (stF 0 (kr ||| 2 ^ n)))), (rk, .inl (G.2.1, 96, .inl rk2)), (th, .inl (G.2.1, 61, .inl (upd (fa_fill (fun _ => 0) (tB m) q) q 0))), (ea, .inl (G.2.1, 61, .inl (fa_fill (fun _ => 0) em q)))]) rfl (fun H locs hw => ?_)
                          refine lv_aload_n hx hb dX8_stand_139 rfl (lv_at hl 0 rfl) ?_
                          refine xg X hw (C := RX8) (T := TX8) (N := 27) (by decide +kernel) 0 rfl rfl 1 (by decide) rfl (by decide +kernel) rfl dX8_stand_140 ?_
                          refine lv_iload hx hb dX8_stand_143 (lv_at hl 6 rfl) ?_
                          refine lv_iconst (v := 0) hx hb dX8_stand_145 (by decide) ?_
                          refine xis X hw 8 rfl (j := q) (rfl) (by omega) (by decide) dX8_stand_146 (ws' := [(mo, .inr (5, [.ref th, .ref ea, .ref sa, .ref lk, .ref lq, .ref lz, .int lg, .int un, .int tm, .ref rb, .ref rn, .ref rt, .ref rk, .int (nI (kr ||| 2 ^ n)), .ref cb, .ref cm, .ref cu, .ref ck, .int kc, .int (nI (if kr.testBit n = true then se else se + 1)), .int (nI (if kr.testBit n = true then tt else tt + (resT 0 n).2.2.1)), .ref mk, .ref nt, .ref kp, .ref iq, .int ka, .int wr])), (mk, .inl (G.2.1, 12, .inl mf2)), (nt, .inl (G.2.1, 12, .inl nf2)), (rb, .inl (G.2.1, 8, .inl (sbF 0 (kr ||| 2 ^ n)))), (rn, .inl (G.2.1, 8, .inl (snF 0 (kr ||| 2 ^ n)))), (rt, .inl (G.2.1, 8, .inl (stF 0 (kr ||| 2 ^ n)))), (rk, .inl (G.2.1, 96, .inl rk2)), (th, .inl (G.2.1, 61, .inl (upd (fa_fill (fun _ => 0) (tB m) q) q 0))), (ea, .inl (G.2.1, 61, .inl (upd (fa_fill (fun _ => 0) em q) q 0)))]) rfl (fun H locs hw => ?_)
                          refine lv_iinc (v := nI (q + 1)) (lv' := [(6, .int (nI (q + 1))), (0, .ref mo), (1, .int 0), (2, .int (nI n)), (3, .int (nI b)), (4, .int (nI n)), (5, .int (nI (resT 0 n).1))]) hx hb dX8_stand_147 hl (k := 6) rfl (by exact nI_1 _) (by decide) rfl (fun ls hl => ?_)
                          refine lv_goto (tgt := 124) hx hb dX8_stand_150 (by decide) ?_
                          have hw := hw
                          rw [show (0 : Int32) = (fun _ => 0) q from rfl, fa_fill_succ, fa_fill_succ] at hw
                          exact ih124 (q + 1) _ _ _ (by omega) (by omega) hw (lv_sub hl [1, 2, 3, 4, 5, 6, 0] rfl)
                    have hw : WS G A s.heap H locs [(mo, .inr (5, [.ref th, .ref ea, .ref sa, .ref lk, .ref lq, .ref lz, .int lg, .int un, .int tm, .ref rb, .ref rn, .ref rt, .ref rk, .int (nI (kr ||| 2 ^ n)), .ref cb, .ref cm, .ref cu, .ref ck, .int kc, .int (nI (if kr.testBit n = true then se else se + 1)), .int (nI (if kr.testBit n = true then tt else tt + (resT 0 n).2.2.1)), .ref mk, .ref nt, .ref kp, .ref iq, .int ka, .int wr])), (mk, .inl (G.2.1, 12, .inl mf2)), (nt, .inl (G.2.1, 12, .inl nf2)), (rb, .inl (G.2.1, 8, .inl (sbF 0 (kr ||| 2 ^ n)))), (rn, .inl (G.2.1, 8, .inl (snF 0 (kr ||| 2 ^ n)))), (rt, .inl (G.2.1, 8, .inl (stF 0 (kr ||| 2 ^ n)))), (rk, .inl (G.2.1, 96, .inl rk2)), (th, .inl (G.2.1, 61, .inl (fa_fill (fun _ => 0) (tB m) 0))), (ea, .inl (G.2.1, 61, .inl (fa_fill (fun _ => 0) em 0)))] := hw
                    exact lp124 _ 0 _ _ _ (Nat.lt_succ_self _) (by decide) hw (lv_sub hl [3, 4, 5, 6, 2, 1, 0] rfl)
                  · have hle : 60 < spN (resT 0 n).2.2.2 + b := by rw [hspn]; exact i_nle (b := 60) (by omega) (by decide) c115
                    refine lv_bipush (v := (-5)) hx hb dX8_stand_118 (by decide) ?_
                    refine hret _ _ _ _ _ _ dX8_stand_120 hw ?_
                    exact Or.inr ⟨n, b, mf2, nf2, rk2, hok, rfl, rfl, hb60, hKR2, Or.inl ⟨hle, rfl, rfl⟩⟩
          · have hv := bi_f c54
            refine lv_bipush (v := (-2)) hx hb dX8_stand_57 (by decide) ?_
            refine hret _ _ _ _ _ _ dX8_stand_59 hw ?_
            exact Or.inl ⟨by simp_all, rfl, rfl⟩
        · exact absurd c30 (by decide)

set_option maxHeartbeats 4000000 in
set_option maxRecDepth 100000 in
theorem c_X8_stand1 (l : Launch) (G : GG) (mo : Nat) (th : Nat) (ea : Nat) (sa : Nat) (lk : Nat) (lq : Nat) (lz : Nat) (rb : Nat) (rn : Nat) (rt : Nat) (rk : Nat) (cb : Nat) (cm : Nat) (cu : Nat) (ck : Nat) (mk : Nat) (nt : Nat) (kp : Nat) (iq : Nat) (lg : Int32) (un : Int32) (tm : Int32) (kr : Int32) (ka : Int32) (wr : Int32) (kc : Nat) (se : Nat) (tt : Nat) (mf : Nat → Int32) (nf : Nat → Int32) (rkv : Nat → Int32) (m : Nat) (em : Nat → Int32) (x : Int32) (v : Int32) (hkc : kc < 2 ^ 31) (hKR : KR 1 kc rkv) (hm : m < 2 ^ 61) : CT l G yX8_stand wsX8_stand ({ frames := 3, cells := 0, slots := 0, locals := 75 } : Room) [.ref mo, .int 1, .int x, .int v] [(mo, .inr (5, [.ref th, .ref ea, .ref sa, .ref lk, .ref lq, .ref lz, .int lg, .int un, .int tm, .ref rb, .ref rn, .ref rt, .ref rk, .int kr, .ref cb, .ref cm, .ref cu, .ref ck, .int (nI kc), .int (nI se), .int (nI tt), .ref mk, .ref nt, .ref kp, .ref iq, .int ka, .int wr])), (mk, .inl (G.2.1, 12, .inl mf)), (nt, .inl (G.2.1, 12, .inl nf)), (cb, .inl (G.2.1, 21, .inl (sbF 1 kc))), (cm, .inl (G.2.1, 21, .inl (snF 1 kc))), (cu, .inl (G.2.1, 21, .inl (stF 1 kc))), (ck, .inl (G.2.1, 252, .inl rkv)), (th, .inl (G.2.1, 61, .inl (tB m))), (ea, .inl (G.2.1, 61, .inl em))] (fun r w => ((inR 1 x && inS v) = false ∧ r = some (.int (-2)) ∧ w = [(mo, .inr (5, [.ref th, .ref ea, .ref sa, .ref lk, .ref lq, .ref lz, .int lg, .int un, .int tm, .ref rb, .ref rn, .ref rt, .ref rk, .int kr, .ref cb, .ref cm, .ref cu, .ref ck, .int (nI kc), .int (nI se), .int (nI tt), .ref mk, .ref nt, .ref kp, .ref iq, .int ka, .int wr])), (mk, .inl (G.2.1, 12, .inl mf)), (nt, .inl (G.2.1, 12, .inl nf)), (cb, .inl (G.2.1, 21, .inl (sbF 1 kc))), (cm, .inl (G.2.1, 21, .inl (snF 1 kc))), (cu, .inl (G.2.1, 21, .inl (stF 1 kc))), (ck, .inl (G.2.1, 252, .inl rkv)), (th, .inl (G.2.1, 61, .inl (tB m))), (ea, .inl (G.2.1, 61, .inl em))]) ∨ (∃ (n b : Nat) (mf2 nf2 rk2 : Nat → Int32), okN 1 n ∧ x = nI n ∧ v = nI b ∧ b ≤ 60 ∧ KR 1 (kc ||| 2 ^ n) rk2 ∧ ((60 < spN (resT 1 n).2.2.2 + b ∧ r = some (.int (-5)) ∧ w = [(mo, .inr (5, [.ref th, .ref ea, .ref sa, .ref lk, .ref lq, .ref lz, .int lg, .int un, .int tm, .ref rb, .ref rn, .ref rt, .ref rk, .int kr, .ref cb, .ref cm, .ref cu, .ref ck, .int (nI (kc ||| 2 ^ n)), .int (nI (if kc.testBit n = true then se else se + 1)), .int (nI (if kc.testBit n = true then tt else tt + (resT 1 n).2.2.1)), .ref mk, .ref nt, .ref kp, .ref iq, .int ka, .int wr])), (mk, .inl (G.2.1, 12, .inl mf2)), (nt, .inl (G.2.1, 12, .inl nf2)), (cb, .inl (G.2.1, 21, .inl (sbF 1 (kc ||| 2 ^ n)))), (cm, .inl (G.2.1, 21, .inl (snF 1 (kc ||| 2 ^ n)))), (cu, .inl (G.2.1, 21, .inl (stF 1 (kc ||| 2 ^ n)))), (ck, .inl (G.2.1, 252, .inl rk2)), (th, .inl (G.2.1, 61, .inl (tB m))), (ea, .inl (G.2.1, 61, .inl em))]) ∨ (spN (resT 1 n).2.2.2 + b ≤ 60 ∧ r = some (.int (nI (pcN 64 ((resT 1 n).2.2.2 * 2 ^ b)))) ∧ w = [(mo, .inr (5, [.ref th, .ref ea, .ref sa, .ref lk, .ref lq, .ref lz, .int (nI 0), .int un, .int tm, .ref rb, .ref rn, .ref rt, .ref rk, .int kr, .ref cb, .ref cm, .ref cu, .ref ck, .int (nI (kc ||| 2 ^ n)), .int (nI (if kc.testBit n = true then se else se + 1)), .int (nI (if kc.testBit n = true then tt else tt + (resT 1 n).2.2.1)), .ref mk, .ref nt, .ref kp, .ref iq, .int ka, .int wr])), (mk, .inl (G.2.1, 12, .inl mf2)), (nt, .inl (G.2.1, 12, .inl nf2)), (cb, .inl (G.2.1, 21, .inl (sbF 1 (kc ||| 2 ^ n)))), (cm, .inl (G.2.1, 21, .inl (snF 1 (kc ||| 2 ^ n)))), (cu, .inl (G.2.1, 21, .inl (stF 1 (kc ||| 2 ^ n)))), (ck, .inl (G.2.1, 252, .inl rk2)), (th, .inl (G.2.1, 61, .inl (tB ((resT 1 n).2.2.2 * 2 ^ b)))), (ea, .inl (G.2.1, 61, .inl (fa_fill (fun _ => 0) em 61)))])))) 0 0 := by
  refine ct_i (cc := cX8_stand) (maxL := 7) (by decide +kernel) rfl (Nat.le_of_ble_eq_true rfl) ?_
  intro p e s mt below meth c A Q X hw hret ls hl
  obtain ⟨hx, hb, -⟩ := id X
  have hl : lv_has ls 7 [(0, .ref mo), (1, .int 1), (2, .int x), (3, .int v)] := hl
  refine lv_iload_n hx hb dX8_stand_0 rfl (lv_at hl 1 rfl) ?_
  refine lv_i2l (v := 1) hx hb dX8_stand_1 (by decide) ?_
  refine lv_lconst (v := 0) hx hb dX8_stand_2 (by decide) ?_
  refine lv_lconst (v := 1) hx hb dX8_stand_3 (by decide) ?_
  refine xcP (n := 3) (As := [.long 1, .long 0, .long 1]) (rest := []) X hw (c_X8_in l G 1 0 1 ) gX8_stand_X8_in rfl ⟨rfl, rfl⟩ (by decide +kernel) ⟨by decide, by decide⟩ rfl hl.1 rfl (Nat.le_of_ble_eq_true rfl) dX8_stand_4 ⟨by decide, by decide⟩ (fun r w1 H locs hp hw => ?_)
  obtain rfl := hp
  refine W.eq (g2 := F0 mt 7 ls [.int (bi (inJ 1 0 1))]) rfl ?_
  refine x_cvi (y := 1) (by decide) ?_
  refine lv_if_eq (tgt := 57) hx hb dX8_stand_7 (by decide) (fun c7 => ?_) (fun c7 => ?_)
  · exact absurd c7 (by decide)
  · skip
    refine lv_iload_n hx hb dX8_stand_10 rfl (lv_at hl 1 rfl) ?_
    refine lv_if_ne (tgt := 28) hx hb dX8_stand_11 (by decide) (fun c11 => ?_) (fun c11 => ?_)
    · skip
      refine lv_iload_n hx hb dX8_stand_28 rfl (lv_at hl 1 rfl) ?_
      refine lv_iconst (v := 1) hx hb dX8_stand_29 (by decide) ?_
      refine lv_icmp_ne (tgt := 45) hx hb dX8_stand_30 (by decide) (fun c30 => ?_) (fun c30 => ?_)
      · exact absurd rfl c30
      · skip
        refine lv_iload_n hx hb dX8_stand_33 rfl (lv_at hl 2 rfl) ?_
        refine lv_i2l (v := x.toInt64) hx hb dX8_stand_34 (by rfl) ?_
        refine lv_lconst (v := 1) hx hb dX8_stand_35 (by decide) ?_
        refine xc2 X (v := 20) (by decide +kernel) dX8_stand_36 ?_
        refine xcP (n := 3) (As := [.long x.toInt64, .long 1, .long 20]) (rest := []) X hw (c_X8_in l G x.toInt64 1 20 ) gX8_stand_X8_in rfl ⟨rfl, rfl⟩ (by decide +kernel) ⟨by decide, by decide⟩ rfl hl.1 rfl (Nat.le_of_ble_eq_true rfl) dX8_stand_39 ⟨by decide, by decide⟩ (fun r w1 H locs hp hw => ?_)
        obtain rfl := hp
        refine W.eq (g2 := F0 mt 42 ls [.int (bi (inJ x.toInt64 1 20))]) rfl ?_
        refine x_cvi (y := bi (inR 1 x)) (by rw [inJ_c]) ?_
        refine lv_if_eq (tgt := 57) hx hb dX8_stand_42 (by decide) (fun c42 => ?_) (fun c42 => ?_)
        · have hi := bi_f c42
          refine lv_bipush (v := (-2)) hx hb dX8_stand_57 (by decide) ?_
          refine hret _ _ _ _ _ _ dX8_stand_59 hw ?_
          exact Or.inl ⟨by simp_all, rfl, rfl⟩
        · have hi := bi_t c42
          refine lv_iload_n hx hb dX8_stand_45 rfl (lv_at hl 3 rfl) ?_
          refine lv_i2l (v := v.toInt64) hx hb dX8_stand_46 (by rfl) ?_
          refine lv_lconst (v := 0) hx hb dX8_stand_47 (by decide) ?_
          refine xc2 X (v := 60) (by decide +kernel) dX8_stand_48 ?_
          refine xcP (n := 3) (As := [.long v.toInt64, .long 0, .long 60]) (rest := []) X hw (c_X8_in l G v.toInt64 0 60 ) gX8_stand_X8_in rfl ⟨rfl, rfl⟩ (by decide +kernel) ⟨by decide, by decide⟩ rfl hl.1 rfl (Nat.le_of_ble_eq_true rfl) dX8_stand_51 ⟨by decide, by decide⟩ (fun r w1 H locs hp hw => ?_)
          obtain rfl := hp
          refine W.eq (g2 := F0 mt 54 ls [.int (bi (inJ v.toInt64 0 60))]) rfl ?_
          refine x_cvi (y := bi (inS v)) (by rw [inJ_S]) ?_
          refine lv_if_ne (tgt := 60) hx hb dX8_stand_54 (by decide) (fun c54 => ?_) (fun c54 => ?_)
          · have hv := bi_t c54
            obtain ⟨n, hn1, hn2, rfl⟩ := inR_c hi
            have hok : okN 1 n := Or.inr ⟨rfl, hn1, hn2⟩
            have hlen : (LT 1 n).length = (resT 1 n).1 := (lt_parts hok).2.2.2.1.2 (by decide)
            have hl12 := (lt_parts hok).1
            have hspn : spN (resT 1 n).2.2.2 = n := (lt_parts hok).2.2.2.2.1.2 (by decide)
            have hsp60 := spN_le (resT 1 n).2.2.2
            obtain ⟨b, hb60, rfl⟩ := inS_of hv
            refine lv_iload_n hx hb dX8_stand_60 rfl (lv_at hl 1 rfl) ?_
            refine lv_if_ne (tgt := 72) hx hb dX8_stand_61 (by decide) (fun c61 => ?_) (fun c61 => ?_)
            · skip
              refine lv_aload_n hx hb dX8_stand_72 rfl (lv_at hl 0 rfl) ?_
              refine lv_iload_n hx hb dX8_stand_73 rfl (lv_at hl 2 rfl) ?_
              refine xcV (n := 1) (As := [.int (nI n)]) (rest := []) (wc := [(mo, .inr (5, [.ref th, .ref ea, .ref sa, .ref lk, .ref lq, .ref lz, .int lg, .int un, .int tm, .ref rb, .ref rn, .ref rt, .ref rk, .int kr, .ref cb, .ref cm, .ref cu, .ref ck, .int (nI kc), .int (nI se), .int (nI tt), .ref mk, .ref nt, .ref kp, .ref iq, .int ka, .int wr])), (mk, .inl (G.2.1, 12, .inl mf)), (nt, .inl (G.2.1, 12, .inl nf)), (cb, .inl (G.2.1, 21, .inl (sbF 1 kc))), (cm, .inl (G.2.1, 21, .inl (snF 1 kc))), (cu, .inl (G.2.1, 21, .inl (stF 1 kc))), (ck, .inl (G.2.1, 252, .inl rkv))]) (wr := [(th, .inl (G.2.1, 61, .inl (tB m))), (ea, .inl (G.2.1, 61, .inl em))]) X hw (c_X8_findCovers l G mo th ea sa lk lq lz rb rn rt rk cb cm cu ck mk nt kp iq lg un tm kr ka wr kc se tt mf nf rkv n hkc hn1 hn2) (C := RX8) gX8_stand_X8_findCovers (q0 := 0) rfl rfl rfl ⟨rfl, rfl⟩ (by decide +kernel) ⟨by decide, by decide⟩ rfl hl.1 rfl (Nat.le_of_ble_eq_true rfl) dX8_stand_74 ⟨by decide, by decide⟩ [0, 1, 2, 3, 4, 5, 6] [7, 8] rfl rfl rfl rfl (by decide) (fun r w1 H locs hp hw => ?_)
              obtain ⟨rfl, mf2, nf2, rk2, hk1, hk2, rfl⟩ := hp
              have hKR2 : KR 1 (kc ||| 2 ^ n) rk2 := KR_up hKR hk1 (fun q => ⟨(hk2 q).1, (hk2 q).2 (fun z => by have := cc_pos hn1 hn2; have := i_eq (b := 0) this.2 (by decide) z; omega)⟩)
              have hw := hw.sub (ws' := [(mo, .inr (5, [.ref th, .ref ea, .ref sa, .ref lk, .ref lq, .ref lz, .int lg, .int un, .int tm, .ref rb, .ref rn, .ref rt, .ref rk, .int kr, .ref cb, .ref cm, .ref cu, .ref ck, .int (nI (kc ||| 2 ^ n)), .int (nI (if kc.testBit n = true then se else se + 1)), .int (nI (if kc.testBit n = true then tt else tt + (resT 1 n).2.2.1)), .ref mk, .ref nt, .ref kp, .ref iq, .int ka, .int wr])), (mk, .inl (G.2.1, 12, .inl mf2)), (nt, .inl (G.2.1, 12, .inl nf2)), (cb, .inl (G.2.1, 21, .inl (sbF 1 (kc ||| 2 ^ n)))), (cm, .inl (G.2.1, 21, .inl (snF 1 (kc ||| 2 ^ n)))), (cu, .inl (G.2.1, 21, .inl (stF 1 (kc ||| 2 ^ n)))), (ck, .inl (G.2.1, 252, .inl rk2)), (th, .inl (G.2.1, 61, .inl (tB m))), (ea, .inl (G.2.1, 61, .inl em))]) [2, 3, 4, 5, 6, 7, 8, 0, 1] rfl rfl
              refine W.eq (g2 := F0 mt 77 ls []) rfl ?_
              refine lv_iload_n hx hb dX8_stand_77 rfl (lv_at hl 1 rfl) ?_
              refine lv_if_ne (tgt := 85) hx hb dX8_stand_78 (by decide) (fun c78 => ?_) (fun c78 => ?_)
              · skip
                refine lv_aload_n hx hb dX8_stand_85 rfl (lv_at hl 0 rfl) ?_
                refine xg X hw (C := RX8) (T := TX8) (N := 27) (by decide +kernel) 0 rfl rfl 14 (by decide) rfl (by decide +kernel) rfl dX8_stand_86 ?_
                refine lv_iload_n hx hb dX8_stand_89 rfl (lv_at hl 2 rfl) ?_
                refine xia X hw 3 rfl (j := n) (rfl) (by omega) (by decide) dX8_stand_90 ?_
                refine x_cvi (y := nI (resT 1 n).1) (by show nI (fsOf 1 (kc ||| 2 ^ n) n).1 = _; rw [fsOf_at]) ?_
                refine lv_istore (lv' := [(4, .int (nI (resT 1 n).1)), (0, .ref mo), (1, .int 1), (2, .int (nI n)), (3, .int (nI b))]) hx hb dX8_stand_91 hl (by decide) rfl (fun ls hl => ?_)
                refine lv_iload_n hx hb dX8_stand_93 rfl (lv_at hl 2 rfl) ?_
                refine lv_if_ne (tgt := 106) hx hb dX8_stand_94 (by decide) (fun c94 => ?_) (fun c94 => ?_)
                · skip
                  refine lv_iload_n hx hb dX8_stand_106 rfl (lv_at hl 3 rfl) ?_
                  refine lv_istore (lv' := [(5, .int (nI n)), (4, .int (nI (resT 1 n).1)), (0, .ref mo), (1, .int 1), (2, .int (nI n)), (3, .int (nI b))]) hx hb dX8_stand_107 hl (by decide) rfl (fun ls hl => ?_)
                  refine lv_iload hx hb dX8_stand_109 (lv_at hl 0 rfl) ?_
                  refine lv_iload_n hx hb dX8_stand_111 rfl (lv_at hl 5 rfl) ?_
                  refine lv_iadd hx hb dX8_stand_112 ?_
                  refine x_cvi (y := nI (n + b)) (by exact nI_add _ _) ?_
                  refine lv_bipush (v := 60) hx hb dX8_stand_113 (by decide) ?_
                  refine lv_icmp_le (tgt := 121) hx hb dX8_stand_115 (by decide) (fun c115 => ?_) (fun c115 => ?_)
                  · have hle : spN (resT 1 n).2.2.2 + b ≤ 60 := by rw [hspn]; exact i_le (b := 60) (by omega) (by decide) c115
                    refine lv_iconst (v := 0) hx hb dX8_stand_121 (by decide) ?_
                    refine x_cvi (y := nI 0) (by rfl) ?_
                    refine lv_istore (lv' := [(6, .int (nI 0)), (5, .int (nI n)), (4, .int (nI (resT 1 n).1)), (0, .ref mo), (1, .int 1), (2, .int (nI n)), (3, .int (nI b))]) hx hb dX8_stand_122 hl (by decide) rfl (fun ls hl => ?_)
                    have lp124 : ∀ (fu : Nat) (q : Nat) (H : Heap) (locs : List Loc) (ls : Array Slot), 62 - q < fu → (q ≤ 61) → WS G A s.heap H locs [(mo, .inr (5, [.ref th, .ref ea, .ref sa, .ref lk, .ref lq, .ref lz, .int lg, .int un, .int tm, .ref rb, .ref rn, .ref rt, .ref rk, .int kr, .ref cb, .ref cm, .ref cu, .ref ck, .int (nI (kc ||| 2 ^ n)), .int (nI (if kc.testBit n = true then se else se + 1)), .int (nI (if kc.testBit n = true then tt else tt + (resT 1 n).2.2.1)), .ref mk, .ref nt, .ref kp, .ref iq, .int ka, .int wr])), (mk, .inl (G.2.1, 12, .inl mf2)), (nt, .inl (G.2.1, 12, .inl nf2)), (cb, .inl (G.2.1, 21, .inl (sbF 1 (kc ||| 2 ^ n)))), (cm, .inl (G.2.1, 21, .inl (snF 1 (kc ||| 2 ^ n)))), (cu, .inl (G.2.1, 21, .inl (stF 1 (kc ||| 2 ^ n)))), (ck, .inl (G.2.1, 252, .inl rk2)), (th, .inl (G.2.1, 61, .inl (fa_fill (fun _ => 0) (tB m) q))), (ea, .inl (G.2.1, 61, .inl (fa_fill (fun _ => 0) em q)))] → lv_has ls 7 [(0, .ref mo), (1, .int 1), (2, .int (nI n)), (3, .int (nI b)), (4, .int (nI (resT 1 n).1)), (5, .int (nI n)), (6, .int (nI q))] → W p l e ({ frames := 3, cells := 0, slots := 0, locals := 75 } : Room) s mt ([.ref mo, .int 1, .int (nI n), .int (nI b)] : List Value).toArray below meth c H locs 0 0 Q (F0 mt 124 ls []) := by
                      intro fu
                      induction fu with
                      | zero =>
                        intro q H locs ls hmu
                        exact absurd hmu (Nat.not_lt_zero _)
                      | succ fu ih124 =>
                        intro q H locs ls hmu124 hq hw hl
                        refine lv_iload hx hb dX8_stand_124 (lv_at hl 6 rfl) ?_
                        refine lv_bipush (v := 60) hx hb dX8_stand_126 (by decide) ?_
                        refine lv_icmp_gt (tgt := 153) hx hb dX8_stand_128 (by decide) (fun c128 => ?_) (fun c128 => ?_)
                        · have hk2 : 60 < q := i_lt (by decide) (by omega) c128
                          refine lv_iconst (v := 0) hx hb dX8_stand_153 (by decide) ?_
                          refine x_cvi (y := nI 0) (by rfl) ?_
                          refine lv_istore (lv' := [(6, .int (nI 0)), (0, .ref mo), (1, .int 1), (2, .int (nI n)), (3, .int (nI b)), (4, .int (nI (resT 1 n).1)), (5, .int (nI n))]) hx hb dX8_stand_154 hl (by decide) rfl (fun ls hl => ?_)
                          have lp156 : ∀ (fu : Nat) (k : Nat) (H : Heap) (locs : List Loc) (ls : Array Slot), 13 - k < fu → (k ≤ (LT 1 n).length) → WS G A s.heap H locs [(mo, .inr (5, [.ref th, .ref ea, .ref sa, .ref lk, .ref lq, .ref lz, .int lg, .int un, .int tm, .ref rb, .ref rn, .ref rt, .ref rk, .int kr, .ref cb, .ref cm, .ref cu, .ref ck, .int (nI (kc ||| 2 ^ n)), .int (nI (if kc.testBit n = true then se else se + 1)), .int (nI (if kc.testBit n = true then tt else tt + (resT 1 n).2.2.1)), .ref mk, .ref nt, .ref kp, .ref iq, .int ka, .int wr])), (mk, .inl (G.2.1, 12, .inl mf2)), (nt, .inl (G.2.1, 12, .inl nf2)), (cb, .inl (G.2.1, 21, .inl (sbF 1 (kc ||| 2 ^ n)))), (cm, .inl (G.2.1, 21, .inl (snF 1 (kc ||| 2 ^ n)))), (cu, .inl (G.2.1, 21, .inl (stF 1 (kc ||| 2 ^ n)))), (ck, .inl (G.2.1, 252, .inl rk2)), (th, .inl (G.2.1, 61, .inl (stW (LT 1 n) b (fun _ => 0) k))), (ea, .inl (G.2.1, 61, .inl (fa_fill (fun _ => 0) em 61)))] → lv_has ls 7 [(0, .ref mo), (1, .int 1), (2, .int (nI n)), (3, .int (nI b)), (4, .int (nI (resT 1 n).1)), (5, .int (nI n)), (6, .int (nI k))] → W p l e ({ frames := 3, cells := 0, slots := 0, locals := 75 } : Room) s mt ([.ref mo, .int 1, .int (nI n), .int (nI b)] : List Value).toArray below meth c H locs 0 0 Q (F0 mt 156 ls []) := by
                            intro fu
                            induction fu with
                            | zero =>
                              intro k H locs ls hmu
                              exact absurd hmu (Nat.not_lt_zero _)
                            | succ fu ih156 =>
                              intro k H locs ls hmu156 hk hw hl
                              refine lv_iload hx hb dX8_stand_156 (lv_at hl 6 rfl) ?_
                              refine lv_iload hx hb dX8_stand_158 (lv_at hl 4 rfl) ?_
                              refine lv_icmp_ge (tgt := 208) hx hb dX8_stand_160 (by decide) (fun c160 => ?_) (fun c160 => ?_)
                              · have hk2 : (LT 1 n).length ≤ k := by rw [hlen]; exact i_le (by omega) (by omega) c160
                                refine lv_aload_n hx hb dX8_stand_208 rfl (lv_at hl 0 rfl) ?_
                                refine lv_iconst (v := 0) hx hb dX8_stand_209 (by decide) ?_
                                refine x_cvi (y := nI 0) (by rfl) ?_
                                refine xp X hw (C := RX8) (ty := .int) (T := TX8) (N := 27) (by decide +kernel) tyX8 tyX8_ok nmX8 0 rfl rfl 6 (by decide) rfl (by decide +kernel) rfl (by decide +kernel) rfl rfl (Nat.le_of_ble_eq_true rfl) dX8_stand_210 (ws' := [(mo, .inr (5, [.ref th, .ref ea, .ref sa, .ref lk, .ref lq, .ref lz, .int (nI 0), .int un, .int tm, .ref rb, .ref rn, .ref rt, .ref rk, .int kr, .ref cb, .ref cm, .ref cu, .ref ck, .int (nI (kc ||| 2 ^ n)), .int (nI (if kc.testBit n = true then se else se + 1)), .int (nI (if kc.testBit n = true then tt else tt + (resT 1 n).2.2.1)), .ref mk, .ref nt, .ref kp, .ref iq, .int ka, .int wr])), (mk, .inl (G.2.1, 12, .inl mf2)), (nt, .inl (G.2.1, 12, .inl nf2)), (cb, .inl (G.2.1, 21, .inl (sbF 1 (kc ||| 2 ^ n)))), (cm, .inl (G.2.1, 21, .inl (snF 1 (kc ||| 2 ^ n)))), (cu, .inl (G.2.1, 21, .inl (stF 1 (kc ||| 2 ^ n)))), (ck, .inl (G.2.1, 252, .inl rk2)), (th, .inl (G.2.1, 61, .inl (stW (LT 1 n) b (fun _ => 0) k))), (ea, .inl (G.2.1, 61, .inl (fa_fill (fun _ => 0) em 61)))]) rfl (fun H locs hw => ?_)
                                refine lv_iload hx hb dX8_stand_213 (lv_at hl 4 rfl) ?_
                                refine hret _ _ _ _ _ _ dX8_stand_215 hw ?_
                                refine Or.inr ⟨n, b, mf2, nf2, rk2, hok, rfl, rfl, hb60, hKR2, Or.inr ⟨hle, by rw [stand_n hok hle, hlen], ?_⟩⟩
                                have hkL : k = (LT 1 n).length := by omega
                                rw [hkL, stand_tB hok hle]
                              · have hk2 : k < (LT 1 n).length := by rw [hlen]; exact i_nle (by omega) (by omega) c160
                                have hat := lt_le hok hk2
                                refine lv_aload_n hx hb dX8_stand_163 rfl (lv_at hl 0 rfl) ?_
                                refine xg X hw (C := RX8) (T := TX8) (N := 27) (by decide +kernel) 0 rfl rfl 0 (by decide) rfl (by decide +kernel) rfl dX8_stand_164 ?_
                                refine lv_iload_n hx hb dX8_stand_167 rfl (lv_at hl 3 rfl) ?_
                                refine lv_iload_n hx hb dX8_stand_168 rfl (lv_at hl 1 rfl) ?_
                                refine lv_if_ne (tgt := 187) hx hb dX8_stand_169 (by decide) (fun c169 => ?_) (fun c169 => ?_)
                                · skip
                                  refine lv_aload_n hx hb dX8_stand_187 rfl (lv_at hl 0 rfl) ?_
                                  refine xg X hw (C := RX8) (T := TX8) (N := 27) (by decide +kernel) 0 rfl rfl 17 (by decide) rfl (by decide +kernel) rfl dX8_stand_188 ?_
                                  refine lv_bipush (v := 12) hx hb dX8_stand_191 (by decide) ?_
                                  refine lv_iload_n hx hb dX8_stand_193 rfl (lv_at hl 2 rfl) ?_
                                  refine lv_imul hx hb dX8_stand_194 ?_
                                  refine x_cvi (y := nI (12 * n)) (by exact pk_mul 12 n) ?_
                                  refine lv_iload hx hb dX8_stand_195 (lv_at hl 6 rfl) ?_
                                  refine lv_iadd hx hb dX8_stand_197 ?_
                                  refine x_cvi (y := nI (12 * n + k)) (by exact nI_add _ _) ?_
                                  refine xia X hw 6 rfl (j := (12 * n + k)) (rfl) (by omega) (by decide) dX8_stand_198 ?_
                                  refine x_cvi (y := nI (atL (LT 1 n) k)) (by exact hKR2 n hok (by rw [or_tb]; simp) k (by omega)) ?_
                                  refine lv_iadd hx hb dX8_stand_199 ?_
                                  refine x_cvi (y := nI (b + atL (LT 1 n) k)) (by exact nI_add _ _) ?_
                                  refine lv_iconst (v := 1) hx hb dX8_stand_200 (by decide) ?_
                                  refine xis X hw 7 rfl (j := (b + atL (LT 1 n) k)) (rfl) (by omega) (by decide) dX8_stand_201 (ws' := [(mo, .inr (5, [.ref th, .ref ea, .ref sa, .ref lk, .ref lq, .ref lz, .int lg, .int un, .int tm, .ref rb, .ref rn, .ref rt, .ref rk, .int kr, .ref cb, .ref cm, .ref cu, .ref ck, .int (nI (kc ||| 2 ^ n)), .int (nI (if kc.testBit n = true then se else se + 1)), .int (nI (if kc.testBit n = true then tt else tt + (resT 1 n).2.2.1)), .ref mk, .ref nt, .ref kp, .ref iq, .int ka, .int wr])), (mk, .inl (G.2.1, 12, .inl mf2)), (nt, .inl (G.2.1, 12, .inl nf2)), (cb, .inl (G.2.1, 21, .inl (sbF 1 (kc ||| 2 ^ n)))), (cm, .inl (G.2.1, 21, .inl (snF 1 (kc ||| 2 ^ n)))), (cu, .inl (G.2.1, 21, .inl (stF 1 (kc ||| 2 ^ n)))), (ck, .inl (G.2.1, 252, .inl rk2)), (th, .inl (G.2.1, 61, .inl (upd (stW (LT 1 n) b (fun _ => 0) k) (b + atL (LT 1 n) k) 1))), (ea, .inl (G.2.1, 61, .inl (fa_fill (fun _ => 0) em 61)))]) rfl (fun H locs hw => ?_)
                                  rw [stW_s] at hw
                                  refine lv_iinc (v := nI (k + 1)) (lv' := [(6, .int (nI (k + 1))), (0, .ref mo), (1, .int 1), (2, .int (nI n)), (3, .int (nI b)), (4, .int (nI (resT 1 n).1)), (5, .int (nI n))]) hx hb dX8_stand_202 hl (k := 6) rfl (by exact nI_1 _) (by decide) rfl (fun ls hl => ?_)
                                  refine lv_goto (tgt := 156) hx hb dX8_stand_205 (by decide) ?_
                                  exact ih156 (k + 1) _ _ _ (by omega) (by omega) hw (lv_sub hl [1, 2, 3, 4, 5, 6, 0] rfl)
                                · exact absurd c169 (by decide)
                          have hq61 : q = 61 := by omega
                          rw [hq61, fill0 hm] at hw
                          have hw : WS G A s.heap H locs [(mo, .inr (5, [.ref th, .ref ea, .ref sa, .ref lk, .ref lq, .ref lz, .int lg, .int un, .int tm, .ref rb, .ref rn, .ref rt, .ref rk, .int kr, .ref cb, .ref cm, .ref cu, .ref ck, .int (nI (kc ||| 2 ^ n)), .int (nI (if kc.testBit n = true then se else se + 1)), .int (nI (if kc.testBit n = true then tt else tt + (resT 1 n).2.2.1)), .ref mk, .ref nt, .ref kp, .ref iq, .int ka, .int wr])), (mk, .inl (G.2.1, 12, .inl mf2)), (nt, .inl (G.2.1, 12, .inl nf2)), (cb, .inl (G.2.1, 21, .inl (sbF 1 (kc ||| 2 ^ n)))), (cm, .inl (G.2.1, 21, .inl (snF 1 (kc ||| 2 ^ n)))), (cu, .inl (G.2.1, 21, .inl (stF 1 (kc ||| 2 ^ n)))), (ck, .inl (G.2.1, 252, .inl rk2)), (th, .inl (G.2.1, 61, .inl (stW (LT 1 n) b (fun _ => 0) 0))), (ea, .inl (G.2.1, 61, .inl (fa_fill (fun _ => 0) em 61)))] := hw
                          exact lp156 _ 0 _ _ _ (Nat.lt_succ_self _) (by omega) hw (lv_sub hl [1, 2, 3, 4, 5, 6, 0] rfl)
                        · have hk2 : q ≤ 60 := i_nlt (by decide) (by omega) c128
                          refine lv_aload_n hx hb dX8_stand_131 rfl (lv_at hl 0 rfl) ?_
                          refine xg X hw (C := RX8) (T := TX8) (N := 27) (by decide +kernel) 0 rfl rfl 0 (by decide) rfl (by decide +kernel) rfl dX8_stand_132 ?_
                          refine lv_iload hx hb dX8_stand_135 (lv_at hl 6 rfl) ?_
                          refine lv_iconst (v := 0) hx hb dX8_stand_137 (by decide) ?_
                          refine xis X hw 7 rfl (j := q) (rfl) (by omega) (by decide) dX8_stand_138 (ws' := [(mo, .inr (5, [.ref th, .ref ea, .ref sa, .ref lk, .ref lq, .ref lz, .int lg, .int un, .int tm, .ref rb, .ref rn, .ref rt, .ref rk, .int kr, .ref cb, .ref cm, .ref cu, .ref ck, .int (nI (kc ||| 2 ^ n)), .int (nI (if kc.testBit n = true then se else se + 1)), .int (nI (if kc.testBit n = true then tt else tt + (resT 1 n).2.2.1)), .ref mk, .ref nt, .ref kp, .ref iq, .int ka, .int wr])), (mk, .inl (G.2.1, 12, .inl mf2)), (nt, .inl (G.2.1, 12, .inl nf2)), (cb, .inl (G.2.1, 21, .inl (sbF 1 (kc ||| 2 ^ n)))), (cm, .inl (G.2.1, 21, .inl (snF 1 (kc ||| 2 ^ n)))), (cu, .inl (G.2.1, 21, .inl (stF 1 (kc ||| 2 ^ n)))), (ck, .inl (G.2.1, 252, .inl rk2)), (th, .inl (G.2.1, 61, .inl (upd (fa_fill (fun _ => 0) (tB m) q) q 0))), (ea, .inl (G.2.1, 61, .inl (fa_fill (fun _ => 0) em q)))]) rfl (fun H locs hw => ?_)
                          refine lv_aload_n hx hb dX8_stand_139 rfl (lv_at hl 0 rfl) ?_
                          refine xg X hw (C := RX8) (T := TX8) (N := 27) (by decide +kernel) 0 rfl rfl 1 (by decide) rfl (by decide +kernel) rfl dX8_stand_140 ?_
                          refine lv_iload hx hb dX8_stand_143 (lv_at hl 6 rfl) ?_
                          refine lv_iconst (v := 0) hx hb dX8_stand_145 (by decide) ?_
                          refine xis X hw 8 rfl (j := q) (rfl) (by omega) (by decide) dX8_stand_146 (ws' := [(mo, .inr (5, [.ref th, .ref ea, .ref sa, .ref lk, .ref lq, .ref lz, .int lg, .int un, .int tm, .ref rb, .ref rn, .ref rt, .ref rk, .int kr, .ref cb, .ref cm, .ref cu, .ref ck, .int (nI (kc ||| 2 ^ n)), .int (nI (if kc.testBit n = true then se else se + 1)), .int (nI (if kc.testBit n = true then tt else tt + (resT 1 n).2.2.1)), .ref mk, .ref nt, .ref kp, .ref iq, .int ka, .int wr])), (mk, .inl (G.2.1, 12, .inl mf2)), (nt, .inl (G.2.1, 12, .inl nf2)), (cb, .inl (G.2.1, 21, .inl (sbF 1 (kc ||| 2 ^ n)))), (cm, .inl (G.2.1, 21, .inl (snF 1 (kc ||| 2 ^ n)))), (cu, .inl (G.2.1, 21, .inl (stF 1 (kc ||| 2 ^ n)))), (ck, .inl (G.2.1, 252, .inl rk2)), (th, .inl (G.2.1, 61, .inl (upd (fa_fill (fun _ => 0) (tB m) q) q 0))), (ea, .inl (G.2.1, 61, .inl (upd (fa_fill (fun _ => 0) em q) q 0)))]) rfl (fun H locs hw => ?_)
                          refine lv_iinc (v := nI (q + 1)) (lv' := [(6, .int (nI (q + 1))), (0, .ref mo), (1, .int 1), (2, .int (nI n)), (3, .int (nI b)), (4, .int (nI (resT 1 n).1)), (5, .int (nI n))]) hx hb dX8_stand_147 hl (k := 6) rfl (by exact nI_1 _) (by decide) rfl (fun ls hl => ?_)
                          refine lv_goto (tgt := 124) hx hb dX8_stand_150 (by decide) ?_
                          have hw := hw
                          rw [show (0 : Int32) = (fun _ => 0) q from rfl, fa_fill_succ, fa_fill_succ] at hw
                          exact ih124 (q + 1) _ _ _ (by omega) (by omega) hw (lv_sub hl [1, 2, 3, 4, 5, 6, 0] rfl)
                    have hw : WS G A s.heap H locs [(mo, .inr (5, [.ref th, .ref ea, .ref sa, .ref lk, .ref lq, .ref lz, .int lg, .int un, .int tm, .ref rb, .ref rn, .ref rt, .ref rk, .int kr, .ref cb, .ref cm, .ref cu, .ref ck, .int (nI (kc ||| 2 ^ n)), .int (nI (if kc.testBit n = true then se else se + 1)), .int (nI (if kc.testBit n = true then tt else tt + (resT 1 n).2.2.1)), .ref mk, .ref nt, .ref kp, .ref iq, .int ka, .int wr])), (mk, .inl (G.2.1, 12, .inl mf2)), (nt, .inl (G.2.1, 12, .inl nf2)), (cb, .inl (G.2.1, 21, .inl (sbF 1 (kc ||| 2 ^ n)))), (cm, .inl (G.2.1, 21, .inl (snF 1 (kc ||| 2 ^ n)))), (cu, .inl (G.2.1, 21, .inl (stF 1 (kc ||| 2 ^ n)))), (ck, .inl (G.2.1, 252, .inl rk2)), (th, .inl (G.2.1, 61, .inl (fa_fill (fun _ => 0) (tB m) 0))), (ea, .inl (G.2.1, 61, .inl (fa_fill (fun _ => 0) em 0)))] := hw
                    exact lp124 _ 0 _ _ _ (Nat.lt_succ_self _) (by decide) hw (lv_sub hl [3, 4, 5, 6, 2, 1, 0] rfl)
                  · have hle : 60 < spN (resT 1 n).2.2.2 + b := by rw [hspn]; exact i_nle (b := 60) (by omega) (by decide) c115
                    refine lv_bipush (v := (-5)) hx hb dX8_stand_118 (by decide) ?_
                    refine hret _ _ _ _ _ _ dX8_stand_120 hw ?_
                    exact Or.inr ⟨n, b, mf2, nf2, rk2, hok, rfl, rfl, hb60, hKR2, Or.inl ⟨hle, rfl, rfl⟩⟩
                · exact absurd c94 (by decide)
              · exact absurd c78 (by decide)
            · exact absurd c61 (by decide)
          · have hv := bi_f c54
            refine lv_bipush (v := (-2)) hx hb dX8_stand_57 (by decide) ?_
            refine hret _ _ _ _ _ _ dX8_stand_59 hw ?_
            exact Or.inl ⟨by simp_all, rfl, rfl⟩
    · exact absurd c11 (by decide)

set_option maxHeartbeats 4000000 in
set_option maxRecDepth 100000 in
theorem c_X8_standX (l : Launch) (G : GG) (mo : Nat) (th : Nat) (ea : Nat) (sa : Nat) (lk : Nat) (lq : Nat) (lz : Nat) (rb : Nat) (rn : Nat) (rt : Nat) (rk : Nat) (cb : Nat) (cm : Nat) (cu : Nat) (ck : Nat) (mk : Nat) (nt : Nat) (kp : Nat) (iq : Nat) (lg : Int32) (un : Int32) (tm : Int32) (kr : Int32) (kc : Int32) (se : Int32) (tr : Int32) (ka : Int32) (wr : Int32) (k : Int32) (x : Int32) (v : Int32) (hk0 : k ≠ 0) (hk1 : k ≠ 1) : CT l G yX8_stand wsX8_stand ({ frames := 3, cells := 0, slots := 0, locals := 75 } : Room) [.ref mo, .int k, .int x, .int v] [(mo, .inr (5, [.ref th, .ref ea, .ref sa, .ref lk, .ref lq, .ref lz, .int lg, .int un, .int tm, .ref rb, .ref rn, .ref rt, .ref rk, .int kr, .ref cb, .ref cm, .ref cu, .ref ck, .int kc, .int se, .int tr, .ref mk, .ref nt, .ref kp, .ref iq, .int ka, .int wr]))] (fun r w => r = some (.int (-2)) ∧ w = [(mo, .inr (5, [.ref th, .ref ea, .ref sa, .ref lk, .ref lq, .ref lz, .int lg, .int un, .int tm, .ref rb, .ref rn, .ref rt, .ref rk, .int kr, .ref cb, .ref cm, .ref cu, .ref ck, .int kc, .int se, .int tr, .ref mk, .ref nt, .ref kp, .ref iq, .int ka, .int wr]))]) 0 0 := by
  refine ct_i (cc := cX8_stand) (maxL := 7) (by decide +kernel) rfl (Nat.le_of_ble_eq_true rfl) ?_
  intro p e s mt below meth c A Q X hw hret ls hl
  obtain ⟨hx, hb, -⟩ := id X
  have hl : lv_has ls 7 [(0, .ref mo), (1, .int k), (2, .int x), (3, .int v)] := hl
  refine lv_iload_n hx hb dX8_stand_0 rfl (lv_at hl 1 rfl) ?_
  refine lv_i2l (v := k.toInt64) hx hb dX8_stand_1 (by rfl) ?_
  refine lv_lconst (v := 0) hx hb dX8_stand_2 (by decide) ?_
  refine lv_lconst (v := 1) hx hb dX8_stand_3 (by decide) ?_
  refine xcP (n := 3) (As := [.long k.toInt64, .long 0, .long 1]) (rest := []) X hw (c_X8_in l G k.toInt64 0 1 ) gX8_stand_X8_in rfl ⟨rfl, rfl⟩ (by decide +kernel) ⟨by decide, by decide⟩ rfl hl.1 rfl (Nat.le_of_ble_eq_true rfl) dX8_stand_4 ⟨by decide, by decide⟩ (fun r w1 H locs hp hw => ?_)
  obtain rfl := hp
  refine W.eq (g2 := F0 mt 7 ls [.int (bi (inJ k.toInt64 0 1))]) rfl ?_
  refine x_cvi (y := bi (inG k)) (by rw [inJ_G]) ?_
  refine lv_if_eq (tgt := 57) hx hb dX8_stand_7 (by decide) (fun c7 => ?_) (fun c7 => ?_)
  · skip
    refine lv_bipush (v := (-2)) hx hb dX8_stand_57 (by decide) ?_
    refine hret _ _ _ _ _ _ dX8_stand_59 hw ?_
    exact ⟨rfl, rfl⟩
  · exact absurd (bi_t c7) (by unfold inG; simp [hk0, hk1])
