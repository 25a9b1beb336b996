set_option maxHeartbeats 4000000 in
set_option maxRecDepth 100000 in
theorem c_X8_findCovers (l : Launch) (G : GG) (mo : Nat) (th : Nat) (ea : Nat) (sa : Nat) (lk : Nat) (lq : Nat) (lz : Nat) (rb : Nat) (rn : Nat) (rt : Nat) (rk : Nat) (cb : Nat) (cm : Nat) (cu : Nat) (ck : Nat) (mk : Nat) (nt : Nat) (kp : Nat) (iq : Nat) (lg : Int32) (un : Int32) (tm : Int32) (kr : Int32) (ka : Int32) (wr : Int32) (kc : Nat) (se : Nat) (tt : Nat) (mf : Nat → Int32) (nf : Nat → Int32) (rkv : Nat → Int32) (n : Nat) (hkc : kc < 2 ^ 31) (hl1 : 1 ≤ n) (hlen : n ≤ 20) : CT l G yX8_findCovers wsX8_findCovers ({ frames := 2, cells := 0, slots := 0, locals := 53 } : Room) [.ref mo, .int (nI n)] [(mo, .inr (5, [.ref th, .ref ea, .ref sa, .ref lk, .ref lq, .ref lz, .int lg, .int un, .int tm, .ref rb, .ref rn, .ref rt, .ref rk, .int kr, .ref cb, .ref cm, .ref cu, .ref ck, .int (nI kc), .int (nI se), .int (nI tt), .ref mk, .ref nt, .ref kp, .ref iq, .int ka, .int wr])), (mk, .inl (G.2.1, 12, .inl mf)), (nt, .inl (G.2.1, 12, .inl nf)), (cb, .inl (G.2.1, 21, .inl (sbF 1 kc))), (cm, .inl (G.2.1, 21, .inl (snF 1 kc))), (cu, .inl (G.2.1, 21, .inl (stF 1 kc))), (ck, .inl (G.2.1, 252, .inl rkv))] (fun r w => r = none ∧ ∃ (mf2 nf2 rk2 : Nat → Int32), (kc.testBit n = true → rk2 = rkv) ∧ (kc.testBit n = false → okRC n (cRes n).2 rkv rk2) ∧ w = [(mo, .inr (5, [.ref th, .ref ea, .ref sa, .ref lk, .ref lq, .ref lz, .int lg, .int un, .int tm, .ref rb, .ref rn, .ref rt, .ref rk, .int kr, .ref cb, .ref cm, .ref cu, .ref ck, .int (nI (kc ||| 2 ^ n)), .int (nI (if kc.testBit n = true then se else se + 1)), .int (nI (if kc.testBit n = true then tt else tt + (resT 1 n).2.2.1)), .ref mk, .ref nt, .ref kp, .ref iq, .int ka, .int wr])), (mk, .inl (G.2.1, 12, .inl mf2)), (nt, .inl (G.2.1, 12, .inl nf2)), (cb, .inl (G.2.1, 21, .inl (sbF 1 (kc ||| 2 ^ n)))), (cm, .inl (G.2.1, 21, .inl (snF 1 (kc ||| 2 ^ n)))), (cu, .inl (G.2.1, 21, .inl (stF 1 (kc ||| 2 ^ n)))), (ck, .inl (G.2.1, 252, .inl rk2))]) 0 0 := by
  refine ct_v (cc := cX8_findCovers) (maxL := 3) (by decide +kernel) rfl (Nat.le_of_ble_eq_true rfl) ?_
  intro p e s mt below meth c A Q X hw hret ls hl
  obtain ⟨hx, hb, -⟩ := id X
  have hl : lv_has ls 3 [(0, .ref mo), (1, .int (nI n))] := hl
  refine lv_aload_n hx hb dX8_findCovers_0 rfl (lv_at hl 0 rfl) ?_
  refine xg X hw (C := RX8) (T := TX8) (N := 27) (by decide +kernel) 0 rfl rfl 18 (by decide) rfl (by decide +kernel) rfl dX8_findCovers_1 ?_
  refine lv_iload_n hx hb dX8_findCovers_4 rfl (lv_at hl 1 rfl) ?_
  refine lv_ishr hx hb dX8_findCovers_5 ?_
  refine lv_iconst (v := 1) hx hb dX8_findCovers_6 (by decide) ?_
  refine lv_iand hx hb dX8_findCovers_7 ?_
  refine x_cvi (y := nI (kc / 2 ^ n % 2)) (by exact kn_shr hkc (by omega)) ?_
  refine lv_iconst (v := 1) hx hb dX8_findCovers_8 (by decide) ?_
  refine lv_icmp_ne (tgt := 13) hx hb dX8_findCovers_9 (by decide) (fun c9 => ?_) (fun c9 => ?_)
  · have hbt := kn_zero c9
    refine lv_aload_n hx hb dX8_findCovers_13 rfl (lv_at hl 0 rfl) ?_
    refine lv_dup hx hb dX8_findCovers_14 rfl ?_
    refine xg X hw (C := RX8) (T := TX8) (N := 27) (by decide +kernel) 0 rfl rfl 18 (by decide) rfl (by decide +kernel) rfl dX8_findCovers_15 ?_
    refine lv_iconst (v := 1) hx hb dX8_findCovers_18 (by decide) ?_
    refine lv_iload_n hx hb dX8_findCovers_19 rfl (lv_at hl 1 rfl) ?_
    refine lv_ishl hx hb dX8_findCovers_20 ?_
    refine x_cvi (y := nI (2 ^ n)) (by exact shl1 (by omega)) ?_
    refine lv_ior hx hb dX8_findCovers_21 ?_
    refine x_cvi (y := nI (kc ||| 2 ^ n)) (by exact fa_or _ _) ?_
    refine xp X hw (C := RX8) (ty := .int) (T := TX8) (N := 27) (by decide +kernel) tyX8 tyX8_ok nmX8 0 rfl rfl 18 (by decide) rfl (by decide +kernel) rfl (by decide +kernel) rfl rfl (Nat.le_of_ble_eq_true rfl) dX8_findCovers_22 (ws' := [(mo, .inr (5, [.ref th, .ref ea, .ref sa, .ref lk, .ref lq, .ref lz, .int lg, .int un, .int tm, .ref rb, .ref rn, .ref rt, .ref rk, .int kr, .ref cb, .ref cm, .ref cu, .ref ck, .int (nI (kc ||| 2 ^ n)), .int (nI se), .int (nI tt), .ref mk, .ref nt, .ref kp, .ref iq, .int ka, .int wr])), (mk, .inl (G.2.1, 12, .inl mf)), (nt, .inl (G.2.1, 12, .inl nf)), (cb, .inl (G.2.1, 21, .inl (sbF 1 kc))), (cm, .inl (G.2.1, 21, .inl (snF 1 kc))), (cu, .inl (G.2.1, 21, .inl (stF 1 kc))), (ck, .inl (G.2.1, 252, .inl rkv))]) rfl (fun H locs hw => ?_)
    refine lv_aload_n hx hb dX8_findCovers_25 rfl (lv_at hl 0 rfl) ?_
    refine lv_dup hx hb dX8_findCovers_26 rfl ?_
    refine xg X hw (C := RX8) (T := TX8) (N := 27) (by decide +kernel) 0 rfl rfl 19 (by decide) rfl (by decide +kernel) rfl dX8_findCovers_27 ?_
    refine lv_iconst (v := 1) hx hb dX8_findCovers_30 (by decide) ?_
    refine lv_iadd hx hb dX8_findCovers_31 ?_
    refine x_cvi (y := nI (se + 1)) (by exact nI_1 _) ?_
    refine xp X hw (C := RX8) (ty := .int) (T := TX8) (N := 27) (by decide +kernel) tyX8 tyX8_ok nmX8 0 rfl rfl 19 (by decide) rfl (by decide +kernel) rfl (by decide +kernel) rfl rfl (Nat.le_of_ble_eq_true rfl) dX8_findCovers_32 (ws' := [(mo, .inr (5, [.ref th, .ref ea, .ref sa, .ref lk, .ref lq, .ref lz, .int lg, .int un, .int tm, .ref rb, .ref rn, .ref rt, .ref rk, .int kr, .ref cb, .ref cm, .ref cu, .ref ck, .int (nI (kc ||| 2 ^ n)), .int (nI (se + 1)), .int (nI tt), .ref mk, .ref nt, .ref kp, .ref iq, .int ka, .int wr])), (mk, .inl (G.2.1, 12, .inl mf)), (nt, .inl (G.2.1, 12, .inl nf)), (cb, .inl (G.2.1, 21, .inl (sbF 1 kc))), (cm, .inl (G.2.1, 21, .inl (snF 1 kc))), (cu, .inl (G.2.1, 21, .inl (stF 1 kc))), (ck, .inl (G.2.1, 252, .inl rkv))]) rfl (fun H locs hw => ?_)
    refine lv_iconst (v := 2) hx hb dX8_findCovers_35 (by decide) ?_
    refine x_cvi (y := nI 2) (by rfl) ?_
    refine lv_istore_n (lv' := [(2, .int (nI 2)), (0, .ref mo), (1, .int (nI n))]) hx hb dX8_findCovers_36 rfl hl (by decide) rfl (fun ls hl => ?_)
    have lp37 : ∀ (fu : Nat) (nn : Nat) (H : Heap) (locs : List Loc) (ls : Array Slot), 14 - nn < fu → (2 ≤ nn) → (cR n (13 - nn) nn 0 (0, 0, 0, []) = cRes n) → WS G A s.heap H locs [(mo, .inr (5, [.ref th, .ref ea, .ref sa, .ref lk, .ref lq, .ref lz, .int lg, .int un, .int tm, .ref rb, .ref rn, .ref rt, .ref rk, .int kr, .ref cb, .ref cm, .ref cu, .ref ck, .int (nI (kc ||| 2 ^ n)), .int (nI (se + 1)), .int (nI tt), .ref mk, .ref nt, .ref kp, .ref iq, .int ka, .int wr])), (mk, .inl (G.2.1, 12, .inl mf)), (nt, .inl (G.2.1, 12, .inl nf)), (cb, .inl (G.2.1, 21, .inl (sbF 1 kc))), (cm, .inl (G.2.1, 21, .inl (upd (snF 1 kc) n (nI 0)))), (cu, .inl (G.2.1, 21, .inl (upd (stF 1 kc) n (nI 0)))), (ck, .inl (G.2.1, 252, .inl rkv))] → lv_has ls 3 [(0, .ref mo), (1, .int (nI n)), (2, .int (nI nn))] → W p l e ({ frames := 2, cells := 0, slots := 0, locals := 53 } : Room) s mt ([.ref mo, .int (nI n)] : List Value).toArray below meth c H locs 0 0 Q (F0 mt 37 ls []) := by
      intro fu
      induction fu with
      | zero =>
        intro nn H locs ls hmu
        exact absurd hmu (Nat.not_lt_zero _)
      | succ fu ih37 =>
        intro nn H locs ls hmu37 hn2 hR1 hw hl
        have hn12 := cc_z hl1 hlen hR1 rfl
        have htl := tt_len (len := 0) (mm := nn) (by omega)
        refine lv_iload_n hx hb dX8_findCovers_37 rfl (lv_at hl 2 rfl) ?_
        refine lv_iconst (v := 1) hx hb dX8_findCovers_38 (by decide) ?_
        refine lv_isub hx hb dX8_findCovers_39 ?_
        refine x_cvi (y := nI (nn - 1)) (by exact pk_sub (b := 1) (by omega)) ?_
        refine xcP (n := 1) (As := [.int (nI (nn - 1))]) (rest := []) X hw (c_X8_halved l G (nn - 1) (by omega)) gX8_findCovers_X8_halved rfl ⟨rfl, rfl⟩ (by decide +kernel) ⟨by decide, by decide⟩ rfl hl.1 rfl (Nat.le_of_ble_eq_true rfl) dX8_findCovers_40 ⟨by decide, by decide⟩ (fun r w1 H locs hp hw => ?_)
        obtain rfl := hp
        refine W.eq (g2 := F0 mt 43 ls [.int (nI ((nn - 1) * ((nn - 1) + 1) / 2))]) rfl ?_
        refine x_cvi (y := nI (nn * (nn - 1) / 2)) (by rw [rr_len (by omega)]) ?_
        refine lv_iload_n hx hb dX8_findCovers_43 rfl (lv_at hl 1 rfl) ?_
        refine lv_icmp_ge (tgt := 53) hx hb dX8_findCovers_44 (by decide) (fun c44 => ?_) (fun c44 => ?_)
        · have hge : n ≤ nn * (nn - 1) / 2 := i_le (by omega) (by omega) c44
          refine lv_iinc (v := nI (nn - 1)) (lv' := [(2, .int (nI (nn - 1))), (0, .ref mo), (1, .int (nI n))]) hx hb dX8_findCovers_53 hl (k := 2) rfl (by exact nI_dec (by omega)) (by decide) rfl (fun ls hl => ?_)
          have lp56 : ∀ (fu : Nat) (L : Nat) (mf1 : Nat → Int32) (nf1 : Nat → Int32) (rk1 : Nat → Int32) (nb1 : Nat) (tr1 : Nat) (fi1 : Nat) (fl1 : List Nat) (sz1 : Nat) (H : Heap) (locs : List Loc) (ls : Array Slot), 14 - L < fu → (1 ≤ L) → (L ≤ 12) → (n ≤ (L + 1) * (L + 1 - 1) / 2) → (okRC n (nb1, tr1, fi1, fl1) rkv rk1) → (sz1 = L ∨ nb1 = 0) → (cR n (13 - (L + 1)) (L + 1) sz1 (nb1, tr1, fi1, fl1) = cRes n) → WS G A s.heap H locs [(mo, .inr (5, [.ref th, .ref ea, .ref sa, .ref lk, .ref lq, .ref lz, .int lg, .int un, .int tm, .ref rb, .ref rn, .ref rt, .ref rk, .int kr, .ref cb, .ref cm, .ref cu, .ref ck, .int (nI (kc ||| 2 ^ n)), .int (nI (se + 1)), .int (nI tt), .ref mk, .ref nt, .ref kp, .ref iq, .int ka, .int wr])), (mk, .inl (G.2.1, 12, .inl mf1)), (nt, .inl (G.2.1, 12, .inl nf1)), (cb, .inl (G.2.1, 21, .inl (sbF 1 kc))), (cm, .inl (G.2.1, 21, .inl (upd (snF 1 kc) n (nI nb1)))), (cu, .inl (G.2.1, 21, .inl (upd (stF 1 kc) n (nI tr1)))), (ck, .inl (G.2.1, 252, .inl rk1))] → lv_has ls 3 [(0, .ref mo), (1, .int (nI n)), (2, .int (nI L))] → W p l e ({ frames := 2, cells := 0, slots := 0, locals := 53 } : Room) s mt ([.ref mo, .int (nI n)] : List Value).toArray below meth c H locs 0 0 Q (F0 mt 56 ls []) := by
            intro fu
            induction fu with
            | zero =>
              intro L mf1 nf1 rk1 nb1 tr1 fi1 fl1 sz1 H locs ls hmu
              exact absurd hmu (Nat.not_lt_zero _)
            | succ fu ih56 =>
              intro L mf1 nf1 rk1 nb1 tr1 fi1 fl1 sz1 H locs ls hmu56 hL1 hL2 hgL hK hsz hR hw hl
              refine lv_aload_n hx hb dX8_findCovers_56 rfl (lv_at hl 0 rfl) ?_
              refine xg X hw (C := RX8) (T := TX8) (N := 27) (by decide +kernel) 0 rfl rfl 15 (by decide) rfl (by decide +kernel) rfl dX8_findCovers_57 ?_
              refine lv_iload_n hx hb dX8_findCovers_60 rfl (lv_at hl 1 rfl) ?_
              refine xia X hw 4 rfl (j := n) (rfl) (by omega) (by decide) dX8_findCovers_61 ?_
              refine x_cvi (y := nI nb1) (by exact upd_at _ _ _) ?_
              refine lv_if_ne (tgt := 77) hx hb dX8_findCovers_62 (by decide) (fun c62 => ?_) (fun c62 => ?_)
              · have hR2 := (cR_done c62).symm.trans hR
                refine lv_aload_n hx hb dX8_findCovers_77 rfl (lv_at hl 0 rfl) ?_
                refine xg X hw (C := RX8) (T := TX8) (N := 27) (by decide +kernel) 0 rfl rfl 14 (by decide) rfl (by decide +kernel) rfl dX8_findCovers_78 ?_
                refine lv_iload_n hx hb dX8_findCovers_81 rfl (lv_at hl 1 rfl) ?_
                refine lv_iload_n hx hb dX8_findCovers_82 rfl (lv_at hl 2 rfl) ?_
                refine xis X hw 3 rfl (j := n) (rfl) (by omega) (by decide) dX8_findCovers_83 (ws' := [(mo, .inr (5, [.ref th, .ref ea, .ref sa, .ref lk, .ref lq, .ref lz, .int lg, .int un, .int tm, .ref rb, .ref rn, .ref rt, .ref rk, .int kr, .ref cb, .ref cm, .ref cu, .ref ck, .int (nI (kc ||| 2 ^ n)), .int (nI (se + 1)), .int (nI tt), .ref mk, .ref nt, .ref kp, .ref iq, .int ka, .int wr])), (mk, .inl (G.2.1, 12, .inl mf1)), (nt, .inl (G.2.1, 12, .inl nf1)), (cb, .inl (G.2.1, 21, .inl (upd (sbF 1 kc) n (nI L)))), (cm, .inl (G.2.1, 21, .inl (upd (snF 1 kc) n (nI nb1)))), (cu, .inl (G.2.1, 21, .inl (upd (stF 1 kc) n (nI tr1)))), (ck, .inl (G.2.1, 252, .inl rk1))]) rfl (fun H locs hw => ?_)
                have hsz2 : L = (resT 1 n).1 := by rw [res_c, ← hR2]; rcases hsz with z | z; (· exact z.symm); exact absurd (by rw [z]; rfl) c62
                rw [hsz2, sb_up] at hw
                refine lv_aload_n hx hb dX8_findCovers_84 rfl (lv_at hl 0 rfl) ?_
                refine lv_dup hx hb dX8_findCovers_85 rfl ?_
                refine xg X hw (C := RX8) (T := TX8) (N := 27) (by decide +kernel) 0 rfl rfl 20 (by decide) rfl (by decide +kernel) rfl dX8_findCovers_86 ?_
                refine lv_aload_n hx hb dX8_findCovers_89 rfl (lv_at hl 0 rfl) ?_
                refine xg X hw (C := RX8) (T := TX8) (N := 27) (by decide +kernel) 0 rfl rfl 16 (by decide) rfl (by decide +kernel) rfl dX8_findCovers_90 ?_
                refine lv_iload_n hx hb dX8_findCovers_93 rfl (lv_at hl 1 rfl) ?_
                refine xia X hw 5 rfl (j := n) (rfl) (by omega) (by decide) dX8_findCovers_94 ?_
                refine x_cvi (y := nI tr1) (by exact upd_at _ _ _) ?_
                refine lv_iadd hx hb dX8_findCovers_95 ?_
                refine x_cvi (y := nI (tt + tr1)) (by exact nI_add _ _) ?_
                refine xp X hw (C := RX8) (ty := .int) (T := TX8) (N := 27) (by decide +kernel) tyX8 tyX8_ok nmX8 0 rfl rfl 20 (by decide) rfl (by decide +kernel) rfl (by decide +kernel) rfl rfl (Nat.le_of_ble_eq_true rfl) dX8_findCovers_96 (ws' := [(mo, .inr (5, [.ref th, .ref ea, .ref sa, .ref lk, .ref lq, .ref lz, .int lg, .int un, .int tm, .ref rb, .ref rn, .ref rt, .ref rk, .int kr, .ref cb, .ref cm, .ref cu, .ref ck, .int (nI (kc ||| 2 ^ n)), .int (nI (se + 1)), .int (nI (tt + tr1)), .ref mk, .ref nt, .ref kp, .ref iq, .int ka, .int wr])), (mk, .inl (G.2.1, 12, .inl mf1)), (nt, .inl (G.2.1, 12, .inl nf1)), (cb, .inl (G.2.1, 21, .inl (sbF 1 (kc ||| 2 ^ n)))), (cm, .inl (G.2.1, 21, .inl (upd (snF 1 kc) n (nI nb1)))), (cu, .inl (G.2.1, 21, .inl (upd (stF 1 kc) n (nI tr1)))), (ck, .inl (G.2.1, 252, .inl rk1))]) rfl (fun H locs hw => ?_)
                refine hret _ _ _ _ _ dX8_findCovers_99 hw ?_
                refine ⟨rfl, mf1, nf1, rk1, fun q => absurd (q.symm.trans hbt) (by decide), fun _ => by rw [← hR2]; exact hK, ?_⟩
                rw [if_neg (by rw [hbt]; decide), if_neg (by rw [hbt]; decide), ← sn_up, ← st_up, res_c, ← hR2]
              · have hL60 := cc_z hl1 hlen hR c62
                refine lv_iinc (v := nI (L + 1)) (lv' := [(2, .int (nI (L + 1))), (0, .ref mo), (1, .int (nI n))]) hx hb dX8_findCovers_65 hl (k := 2) rfl (by exact nI_1 _) (by decide) rfl (fun ls hl => ?_)
                refine lv_aload_n hx hb dX8_findCovers_68 rfl (lv_at hl 1 rfl) ?_
                refine lv_iload_n hx hb dX8_findCovers_69 rfl (lv_at hl 2 rfl) ?_
                refine lv_iload_n hx hb dX8_findCovers_70 rfl (lv_at hl 0 rfl) ?_
                refine xcV (n := 2) (As := [.int (nI n), .int (nI (L + 1))]) (rest := []) (wc := [(mo, .inr (5, [.ref th, .ref ea, .ref sa, .ref lk, .ref lq, .ref lz, .int lg, .int un, .int tm, .ref rb, .ref rn, .ref rt, .ref rk, .int kr, .ref cb, .ref cm, .ref cu, .ref ck, .int (nI (kc ||| 2 ^ n)), .int (nI (se + 1)), .int (nI tt), .ref mk, .ref nt, .ref kp, .ref iq, .int ka, .int wr])), (mk, .inl (G.2.1, 12, .inl mf1)), (nt, .inl (G.2.1, 12, .inl nf1)), (cm, .inl (G.2.1, 21, .inl (upd (snF 1 kc) n (nI nb1)))), (cu, .inl (G.2.1, 21, .inl (upd (stF 1 kc) n (nI tr1)))), (ck, .inl (G.2.1, 252, .inl rk1))]) (wr := [(cb, .inl (G.2.1, 21, .inl (sbF 1 kc)))]) X hw (c_X8_searchCovers l G mo th ea sa lk lq lz rb rn rt rk cb cm cu ck mk nt kp iq lg un tm kr (nI (kc ||| 2 ^ n)) (nI (se + 1)) (nI tt) ka wr mf1 nf1 (snF 1 kc) (stF 1 kc) rkv rk1 nb1 tr1 fi1 fl1 n (L + 1) hl1 hlen (by omega) hL60 hK) (C := RX8) gX8_findCovers_X8_searchCovers (q0 := 0) rfl rfl rfl ⟨rfl, rfl⟩ (by decide +kernel) ⟨by decide, by decide⟩ rfl hl.1 rfl (Nat.le_of_ble_eq_true rfl) dX8_findCovers_71 ⟨by decide, by decide⟩ [0, 1, 2, 4, 5, 6] [3] rfl rfl rfl rfl (by decide) (fun r w1 H locs hp hw => ?_)
                obtain ⟨rfl, mf2, nf2, rk2, hK2, rfl⟩ := hp
                generalize hacc : cOne n (L + 1) (nb1, tr1, fi1, fl1) = acc at hw hK2
                obtain ⟨nb2, tr2, fi2, fl2⟩ := acc
                have hw := hw.sub (ws' := [(mo, .inr (5, [.ref th, .ref ea, .ref sa, .ref lk, .ref lq, .ref lz, .int lg, .int un, .int tm, .ref rb, .ref rn, .ref rt, .ref rk, .int kr, .ref cb, .ref cm, .ref cu, .ref ck, .int (nI (kc ||| 2 ^ n)), .int (nI (se + 1)), .int (nI tt), .ref mk, .ref nt, .ref kp, .ref iq, .int ka, .int wr])), (mk, .inl (G.2.1, 12, .inl mf2)), (nt, .inl (G.2.1, 12, .inl nf2)), (cb, .inl (G.2.1, 21, .inl (sbF 1 kc))), (cm, .inl (G.2.1, 21, .inl (upd (snF 1 kc) n (nI nb2)))), (cu, .inl (G.2.1, 21, .inl (upd (stF 1 kc) n (nI tr2)))), (ck, .inl (G.2.1, 252, .inl rk2))]) [1, 2, 3, 0, 4, 5, 6] rfl rfl
                refine W.eq (g2 := F0 mt 74 ls []) rfl ?_
                refine lv_goto (tgt := 56) hx hb dX8_findCovers_74 (by decide) ?_
                exact ih56 (L + 1) mf2 nf2 rk2 nb2 tr2 fi2 fl2 (L + 1) _ _ _ (by omega) (by omega) (by omega) (cc_mono hgL) (hK2) (Or.inl rfl) (by rw [show 13 - (L + 1) = (13 - (L + 1 + 1)) + 1 by omega, cR_s, if_pos c62, if_neg (by omega), hacc] at hR; exact hR) hw (lv_sub hl [1, 2, 0] rfl)
          exact lp56 _ (nn - 1) mf nf rkv 0 0 0 ([]) 0 _ _ _ (Nat.lt_succ_self _) (by omega) (by omega) (by rw [show nn - 1 + 1 = nn by omega]; exact hge) (⟨fun _ _ => rfl, fun h => absurd rfl h⟩) (Or.inr rfl) (by rw [show nn - 1 + 1 = nn by omega]; exact hR1) hw (lv_sub hl [1, 2, 0] rfl)
        · have hge : nn * (nn - 1) / 2 < n := i_nle (by omega) (by omega) c44
          refine lv_iinc (v := nI (nn + 1)) (lv' := [(2, .int (nI (nn + 1))), (0, .ref mo), (1, .int (nI n))]) hx hb dX8_findCovers_47 hl (k := 2) rfl (by exact nI_1 _) (by decide) rfl (fun ls hl => ?_)
          refine lv_goto (tgt := 37) hx hb dX8_findCovers_50 (by decide) ?_
          exact ih37 (nn + 1) _ _ _ (by omega) (by omega) (by rw [show 13 - nn = (13 - (nn + 1)) + 1 by omega, cR_s, if_pos (show nI ((0, 0, 0, []) : RAcc).1 = 0 from rfl), if_pos hge] at hR1; exact hR1) hw (lv_sub hl [1, 2, 0] rfl)
    have hw : WS G A s.heap H locs [(mo, .inr (5, [.ref th, .ref ea, .ref sa, .ref lk, .ref lq, .ref lz, .int lg, .int un, .int tm, .ref rb, .ref rn, .ref rt, .ref rk, .int kr, .ref cb, .ref cm, .ref cu, .ref ck, .int (nI (kc ||| 2 ^ n)), .int (nI (se + 1)), .int (nI tt), .ref mk, .ref nt, .ref kp, .ref iq, .int ka, .int wr])), (mk, .inl (G.2.1, 12, .inl mf)), (nt, .inl (G.2.1, 12, .inl nf)), (cb, .inl (G.2.1, 21, .inl (sbF 1 kc))), (cm, .inl (G.2.1, 21, .inl (upd (snF 1 kc) n (nI 0)))), (cu, .inl (G.2.1, 21, .inl (upd (stF 1 kc) n (nI 0)))), (ck, .inl (G.2.1, 252, .inl rkv))] := by rw [sn_0 hbt, st_0 hbt]; exact hw
    exact lp37 _ 2 _ _ _ (Nat.lt_succ_self _) (by decide) (rfl) hw (lv_sub hl [1, 2, 0] rfl)
  · have hbt := kn_one c9
    refine hret _ _ _ _ _ dX8_findCovers_12 hw ?_
    exact ⟨rfl, mf, nf, rkv, fun _ => rfl, fun q => absurd (hbt.symm.trans q) (by decide), by rw [or_known hbt, if_pos hbt, if_pos hbt]⟩

set_option maxHeartbeats 4000000 in
set_option maxRecDepth 100000 in
theorem c_X8_cover (l : Launch) (G : GG) (mo : Nat) (th : Nat) (ea : Nat) (sa : Nat) (lk : Nat) (lq : Nat) (lz : Nat) (rb : Nat) (rn : Nat) (rt : Nat) (rk : Nat) (cb : Nat) (cm : Nat) (cu : Nat) (ck : Nat) (mk : Nat) (nt : Nat) (kp : Nat) (iq : Nat) (lg : Int32) (un : Int32) (tm : Int32) (kr : Int32) (ka : Int32) (wr : Int32) (kc : Nat) (se : Nat) (tt : Nat) (mf : Nat → Int32) (nf : Nat → Int32) (rkv : Nat → Int32) (x : Int32) (v : Int32) (hkc : kc < 2 ^ 31) (hKR : KR 1 kc rkv) : CT l G yX8_cover wsX8_cover ({ frames := 3, cells := 0, slots := 0, locals := 75 } : Room) [.ref mo, .int x, .int v] [(mo, .inr (5, [.ref th, .ref ea, .ref sa, .ref lk, .ref lq, .ref lz, .int lg, .int un, .int tm, .ref rb, .ref rn, .ref rt, .ref rk, .int kr, .ref cb, .ref cm, .ref cu, .ref ck, .int (nI kc), .int (nI se), .int (nI tt), .ref mk, .ref nt, .ref kp, .ref iq, .int ka, .int wr])), (mk, .inl (G.2.1, 12, .inl mf)), (nt, .inl (G.2.1, 12, .inl nf)), (cb, .inl (G.2.1, 21, .inl (sbF 1 kc))), (cm, .inl (G.2.1, 21, .inl (snF 1 kc))), (cu, .inl (G.2.1, 21, .inl (stF 1 kc))), (ck, .inl (G.2.1, 252, .inl rkv))] (fun r w => ((inR 1 x && inA v) = false ∧ r = some (.int (-2)) ∧ w = [(mo, .inr (5, [.ref th, .ref ea, .ref sa, .ref lk, .ref lq, .ref lz, .int lg, .int un, .int tm, .ref rb, .ref rn, .ref rt, .ref rk, .int kr, .ref cb, .ref cm, .ref cu, .ref ck, .int (nI kc), .int (nI se), .int (nI tt), .ref mk, .ref nt, .ref kp, .ref iq, .int ka, .int wr])), (mk, .inl (G.2.1, 12, .inl mf)), (nt, .inl (G.2.1, 12, .inl nf)), (cb, .inl (G.2.1, 21, .inl (sbF 1 kc))), (cm, .inl (G.2.1, 21, .inl (snF 1 kc))), (cu, .inl (G.2.1, 21, .inl (stF 1 kc))), (ck, .inl (G.2.1, 252, .inl rkv))]) ∨ (∃ (n : Nat) (mf2 nf2 rk2 : Nat → Int32), okN 1 n ∧ x = nI n ∧ inA v = true ∧ r = some (.int (ansR 1 n v)) ∧ KR 1 (kc ||| 2 ^ n) rk2 ∧ w = [(mo, .inr (5, [.ref th, .ref ea, .ref sa, .ref lk, .ref lq, .ref lz, .int lg, .int un, .int tm, .ref rb, .ref rn, .ref rt, .ref rk, .int kr, .ref cb, .ref cm, .ref cu, .ref ck, .int (nI (kc ||| 2 ^ n)), .int (nI (if kc.testBit n = true then se else se + 1)), .int (nI (if kc.testBit n = true then tt else tt + (resT 1 n).2.2.1)), .ref mk, .ref nt, .ref kp, .ref iq, .int ka, .int wr])), (mk, .inl (G.2.1, 12, .inl mf2)), (nt, .inl (G.2.1, 12, .inl nf2)), (cb, .inl (G.2.1, 21, .inl (sbF 1 (kc ||| 2 ^ n)))), (cm, .inl (G.2.1, 21, .inl (snF 1 (kc ||| 2 ^ n)))), (cu, .inl (G.2.1, 21, .inl (stF 1 (kc ||| 2 ^ n)))), (ck, .inl (G.2.1, 252, .inl rk2))])) 0 0 := by
  refine ct_i (cc := cX8_cover) (maxL := 3) (by decide +kernel) rfl (Nat.le_of_ble_eq_true rfl) ?_
  intro p e s mt below meth c A Q X hw hret ls hl
  obtain ⟨hx, hb, -⟩ := id X
  have hl : lv_has ls 3 [(0, .ref mo), (1, .int x), (2, .int v)] := hl
  refine lv_iload_n hx hb dX8_cover_0 rfl (lv_at hl 1 rfl) ?_
  refine lv_i2l (v := x.toInt64) hx hb dX8_cover_1 (by rfl) ?_
  refine lv_lconst (v := 1) hx hb dX8_cover_2 (by decide) ?_
  refine xc2 X (v := 20) (by decide +kernel) dX8_cover_3 ?_
  refine xcP (n := 3) (As := [.long x.toInt64, .long 1, .long 20]) (rest := []) X hw (c_X8_in l G x.toInt64 1 20 ) gX8_cover_X8_in rfl ⟨rfl, rfl⟩ (by decide +kernel) ⟨by decide, by decide⟩ rfl hl.1 rfl (Nat.le_of_ble_eq_true rfl) dX8_cover_6 ⟨by decide, by decide⟩ (fun r w1 H locs hp hw => ?_)
  obtain rfl := hp
  refine W.eq (g2 := F0 mt 9 ls [.int (bi (inJ x.toInt64 1 20))]) rfl ?_
  refine x_cvi (y := bi (inR 1 x)) (by rw [inJ_c]) ?_
  refine lv_if_eq (tgt := 19) hx hb dX8_cover_9 (by decide) (fun c9 => ?_) (fun c9 => ?_)
  · have hi := bi_f c9
    refine lv_bipush (v := (-2)) hx hb dX8_cover_19 (by decide) ?_
    refine hret _ _ _ _ _ _ dX8_cover_21 hw ?_
    exact Or.inl ⟨by simp_all, rfl, rfl⟩
  · have hi := bi_t c9
    refine lv_iload_n hx hb dX8_cover_12 rfl (lv_at hl 2 rfl) ?_
    refine xcP (n := 1) (As := [.int v]) (rest := []) X hw (c_X8_isWhat l G v ) gX8_cover_X8_isWhat rfl ⟨rfl, rfl⟩ (by decide +kernel) ⟨by decide, by decide⟩ rfl hl.1 rfl (Nat.le_of_ble_eq_true rfl) dX8_cover_13 ⟨by decide, by decide⟩ (fun r w1 H locs hp hw => ?_)
    obtain rfl := hp
    refine W.eq (g2 := F0 mt 16 ls [.int (bi (inA v))]) rfl ?_
    refine lv_if_ne (tgt := 22) hx hb dX8_cover_16 (by decide) (fun c16 => ?_) (fun c16 => ?_)
    · have hv := bi_t c16
      obtain ⟨n, hn1, hn2, rfl⟩ := inR_c hi
      have hok : okN 1 n := Or.inr ⟨rfl, hn1, hn2⟩
      have hlen : (LT 1 n).length = (resT 1 n).1 := (lt_parts hok).2.2.2.1.2 (by decide)
      have hl12 := (lt_parts hok).1
      refine lv_aload_n hx hb dX8_cover_22 rfl (lv_at hl 0 rfl) ?_
      refine lv_iload_n hx hb dX8_cover_23 rfl (lv_at hl 1 rfl) ?_
      refine xcV (n := 1) (As := [.int (nI n)]) (rest := []) (wc := [(mo, .inr (5, [.ref th, .ref ea, .ref sa, .ref lk, .ref lq, .ref lz, .int lg, .int un, .int tm, .ref rb, .ref rn, .ref rt, .ref rk, .int kr, .ref cb, .ref cm, .ref cu, .ref ck, .int (nI kc), .int (nI se), .int (nI tt), .ref mk, .ref nt, .ref kp, .ref iq, .int ka, .int wr])), (mk, .inl (G.2.1, 12, .inl mf)), (nt, .inl (G.2.1, 12, .inl nf)), (cb, .inl (G.2.1, 21, .inl (sbF 1 kc))), (cm, .inl (G.2.1, 21, .inl (snF 1 kc))), (cu, .inl (G.2.1, 21, .inl (stF 1 kc))), (ck, .inl (G.2.1, 252, .inl rkv))]) (wr := []) X hw (c_X8_findCovers l G mo th ea sa lk lq lz rb rn rt rk cb cm cu ck mk nt kp iq lg un tm kr ka wr kc se tt mf nf rkv n hkc hn1 hn2) (C := RX8) gX8_cover_X8_findCovers (q0 := 0) rfl rfl rfl ⟨rfl, rfl⟩ (by decide +kernel) ⟨by decide, by decide⟩ rfl hl.1 rfl (Nat.le_of_ble_eq_true rfl) dX8_cover_24 ⟨by decide, by decide⟩ [0, 1, 2, 3, 4, 5, 6] [] rfl rfl rfl rfl (by decide) (fun r w1 H locs hp hw => ?_)
      obtain ⟨rfl, mf2, nf2, rk2, hk1, hk2, rfl⟩ := hp
      have hKR2 : KR 1 (kc ||| 2 ^ n) rk2 := KR_up hKR hk1 (fun q => ⟨(hk2 q).1, (hk2 q).2 (fun z => by have := cc_pos hn1 hn2; have := i_eq (b := 0) this.2 (by decide) z; omega)⟩)
      have hw := hw.sub (ws' := [(mo, .inr (5, [.ref th, .ref ea, .ref sa, .ref lk, .ref lq, .ref lz, .int lg, .int un, .int tm, .ref rb, .ref rn, .ref rt, .ref rk, .int kr, .ref cb, .ref cm, .ref cu, .ref ck, .int (nI (kc ||| 2 ^ n)), .int (nI (if kc.testBit n = true then se else se + 1)), .int (nI (if kc.testBit n = true then tt else tt + (resT 1 n).2.2.1)), .ref mk, .ref nt, .ref kp, .ref iq, .int ka, .int wr])), (mk, .inl (G.2.1, 12, .inl mf2)), (nt, .inl (G.2.1, 12, .inl nf2)), (cb, .inl (G.2.1, 21, .inl (sbF 1 (kc ||| 2 ^ n)))), (cm, .inl (G.2.1, 21, .inl (snF 1 (kc ||| 2 ^ n)))), (cu, .inl (G.2.1, 21, .inl (stF 1 (kc ||| 2 ^ n)))), (ck, .inl (G.2.1, 252, .inl rk2))]) [0, 1, 2, 3, 4, 5, 6] rfl rfl
      refine W.eq (g2 := F0 mt 27 ls []) rfl ?_
      refine lv_iload_n hx hb dX8_cover_27 rfl (lv_at hl 2 rfl) ?_
      refine lv_bipush (v := 10) hx hb dX8_cover_28 (by decide) ?_
      refine lv_icmp_lt (tgt := 66) hx hb dX8_cover_30 (by decide) (fun c30 => ?_) (fun c30 => ?_)
      · have h10 := c30
        refine lv_iload_n hx hb dX8_cover_66 rfl (lv_at hl 2 rfl) ?_
        refine lv_if_ne (tgt := 79) hx hb dX8_cover_67 (by decide) (fun c67 => ?_) (fun c67 => ?_)
        · refine lv_iload_n hx hb dX8_cover_79 rfl (lv_at hl 2 rfl) ?_
          refine lv_iconst (v := 1) hx hb dX8_cover_80 (by decide) ?_
          refine lv_icmp_ne (tgt := 93) hx hb dX8_cover_81 (by decide) (fun c81 => ?_) (fun c81 => ?_)
          · refine lv_aload_n hx hb dX8_cover_93 rfl (lv_at hl 0 rfl) ?_
            refine xg X hw (C := RX8) (T := TX8) (N := 27) (by decide +kernel) 0 rfl rfl 16 (by decide) rfl (by decide +kernel) rfl dX8_cover_94 ?_
            refine lv_iload_n hx hb dX8_cover_97 rfl (lv_at hl 1 rfl) ?_
            refine xia X hw 5 rfl (j := n) (rfl) (by omega) (by decide) dX8_cover_98 ?_
            refine x_cvi (y := nI (resT 1 n).2.2.1) (by show nI (fsOf 1 (kc ||| 2 ^ n) n).2.2.1 = _; rw [fsOf_at]) ?_
            refine hret _ _ _ _ _ _ dX8_cover_99 hw ?_
            exact Or.inr ⟨n, mf2, nf2, rk2, hok, rfl, hv, congrArg (fun z => some (Value.int z)) (by exact ans_2 1 n hv h10 c67 c81), hKR2, rfl⟩
          · refine lv_aload_n hx hb dX8_cover_84 rfl (lv_at hl 0 rfl) ?_
            refine xg X hw (C := RX8) (T := TX8) (N := 27) (by decide +kernel) 0 rfl rfl 15 (by decide) rfl (by decide +kernel) rfl dX8_cover_85 ?_
            refine lv_iload_n hx hb dX8_cover_88 rfl (lv_at hl 1 rfl) ?_
            refine xia X hw 4 rfl (j := n) (rfl) (by omega) (by decide) dX8_cover_89 ?_
            refine x_cvi (y := nI (resT 1 n).2.1) (by show nI (fsOf 1 (kc ||| 2 ^ n) n).2.1 = _; rw [fsOf_at]) ?_
            refine lv_goto (tgt := 99) hx hb dX8_cover_90 (by decide) ?_
            refine hret _ _ _ _ _ _ dX8_cover_99 hw ?_
            exact Or.inr ⟨n, mf2, nf2, rk2, hok, rfl, hv, congrArg (fun z => some (Value.int z)) (by exact ans_1 1 n c67 c81), hKR2, rfl⟩
        · refine lv_aload_n hx hb dX8_cover_70 rfl (lv_at hl 0 rfl) ?_
          refine xg X hw (C := RX8) (T := TX8) (N := 27) (by decide +kernel) 0 rfl rfl 14 (by decide) rfl (by decide +kernel) rfl dX8_cover_71 ?_
          refine lv_iload_n hx hb dX8_cover_74 rfl (lv_at hl 1 rfl) ?_
          refine xia X hw 3 rfl (j := n) (rfl) (by omega) (by decide) dX8_cover_75 ?_
          refine x_cvi (y := nI (resT 1 n).1) (by show nI (fsOf 1 (kc ||| 2 ^ n) n).1 = _; rw [fsOf_at]) ?_
          refine lv_goto (tgt := 99) hx hb dX8_cover_76 (by decide) ?_
          refine hret _ _ _ _ _ _ dX8_cover_99 hw ?_
          exact Or.inr ⟨n, mf2, nf2, rk2, hok, rfl, hv, congrArg (fun z => some (Value.int z)) (by exact ans_0 1 n c67), hKR2, rfl⟩
      · obtain ⟨w, hw1, hw2, rfl⟩ := ge10 c30
        refine lv_iload_n hx hb dX8_cover_33 rfl (lv_at hl 2 rfl) ?_
        refine lv_bipush (v := 10) hx hb dX8_cover_34 (by decide) ?_
        refine lv_isub hx hb dX8_cover_36 ?_
        refine x_cvi (y := nI (w - 10)) (by exact pk_sub (b := 10) hw1) ?_
        refine lv_aload_n hx hb dX8_cover_37 rfl (lv_at hl 0 rfl) ?_
        refine xg X hw (C := RX8) (T := TX8) (N := 27) (by decide +kernel) 0 rfl rfl 14 (by decide) rfl (by decide +kernel) rfl dX8_cover_38 ?_
        refine lv_iload_n hx hb dX8_cover_41 rfl (lv_at hl 1 rfl) ?_
        refine xia X hw 3 rfl (j := n) (rfl) (by omega) (by decide) dX8_cover_42 ?_
        refine x_cvi (y := nI (resT 1 n).1) (by show nI (fsOf 1 (kc ||| 2 ^ n) n).1 = _; rw [fsOf_at]) ?_
        refine lv_icmp_ge (tgt := 63) hx hb dX8_cover_43 (by decide) (fun c43 => ?_) (fun c43 => ?_)
        · have hj : (LT 1 n).length ≤ w - 10 := by rw [hlen]; exact i_le (by omega) (by omega) c43
          refine lv_bipush (v := (-6)) hx hb dX8_cover_63 (by decide) ?_
          refine hret _ _ _ _ _ _ dX8_cover_65 hw ?_
          exact Or.inr ⟨n, mf2, nf2, rk2, hok, rfl, hv, congrArg (fun z => some (Value.int z)) (by rw [ans_10 hw1 hw2]; exact ans_none hok hj (by omega)), hKR2, rfl⟩
        · have hj : w - 10 < (LT 1 n).length := by rw [hlen]; exact i_nle (by omega) (by omega) c43
          refine lv_aload_n hx hb dX8_cover_46 rfl (lv_at hl 0 rfl) ?_
          refine xg X hw (C := RX8) (T := TX8) (N := 27) (by decide +kernel) 0 rfl rfl 17 (by decide) rfl (by decide +kernel) rfl dX8_cover_47 ?_
          refine lv_bipush (v := 12) hx hb dX8_cover_50 (by decide) ?_
          refine lv_iload_n hx hb dX8_cover_52 rfl (lv_at hl 1 rfl) ?_
          refine lv_imul hx hb dX8_cover_53 ?_
          refine x_cvi (y := nI (12 * n)) (by exact pk_mul 12 n) ?_
          refine lv_iload_n hx hb dX8_cover_54 rfl (lv_at hl 2 rfl) ?_
          refine lv_iadd hx hb dX8_cover_55 ?_
          refine x_cvi (y := nI (12 * n + w)) (by exact nI_add _ _) ?_
          refine lv_bipush (v := 10) hx hb dX8_cover_56 (by decide) ?_
          refine lv_isub hx hb dX8_cover_58 ?_
          refine x_cvi (y := nI (12 * n + (w - 10))) (by rw [show 12 * n + (w - 10) = 12 * n + w - 10 by omega]; exact pk_sub (b := 10) (by omega)) ?_
          refine xia X hw 6 rfl (j := (12 * n + (w - 10))) (rfl) (by omega) (by decide) dX8_cover_59 ?_
          refine lv_goto (tgt := 65) hx hb dX8_cover_60 (by decide) ?_
          refine hret _ _ _ _ _ _ dX8_cover_65 hw ?_
          exact Or.inr ⟨n, mf2, nf2, rk2, hok, rfl, hv, congrArg (fun z => some (Value.int z)) (by rw [ans_10 hw1 hw2]; exact ans_mark hok (hKR2 n hok (by rw [or_tb]; simp)) hj), hKR2, rfl⟩
    · have hv := bi_f c16
      refine lv_bipush (v := (-2)) hx hb dX8_cover_19 (by decide) ?_
      refine hret _ _ _ _ _ _ dX8_cover_21 hw ?_
      exact Or.inl ⟨by simp_all, rfl, rfl⟩
