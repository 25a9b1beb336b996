set_option maxHeartbeats 4000000 in
set_option maxRecDepth 100000 in
theorem c_X8_findRulers (l : Launch) (G : GG) (mo : Nat) (th : Nat) (ea : Nat) (sa : Nat) (lk : Nat) (lq : Nat) (lz : Nat) (rb : Nat) (rn : Nat) (rt : Nat) (rk : Nat) (cb : Nat) (cm : Nat) (cu : Nat) (ck : Nat) (mk : Nat) (nt : Nat) (kp : Nat) (iq : Nat) (lg : Int32) (un : Int32) (tm : Int32) (kc : Int32) (ka : Int32) (wr : Int32) (kr : Nat) (se : Nat) (tt : Nat) (mf : Nat → Int32) (nf : Nat → Int32) (rkv : Nat → Int32) (n : Nat) (hkr : kr < 2 ^ 31) (hn1 : 2 ≤ n) (hn : n ≤ 7) : CT l G yX8_findRulers wsX8_findRulers ({ frames := 2, cells := 0, slots := 0, locals := 52 } : Room) [.ref mo, .int (nI n)] [(mo, .inr (5, [.ref th, .ref ea, .ref sa, .ref lk, .ref lq, .ref lz, .int lg, .int un, .int tm, .ref rb, .ref rn, .ref rt, .ref rk, .int (nI kr), .ref cb, .ref cm, .ref cu, .ref ck, .int kc, .int (nI se), .int (nI tt), .ref mk, .ref nt, .ref kp, .ref iq, .int ka, .int wr])), (mk, .inl (G.2.1, 12, .inl mf)), (nt, .inl (G.2.1, 12, .inl nf)), (rb, .inl (G.2.1, 8, .inl (sbF 0 kr))), (rn, .inl (G.2.1, 8, .inl (snF 0 kr))), (rt, .inl (G.2.1, 8, .inl (stF 0 kr))), (rk, .inl (G.2.1, 96, .inl rkv))] (fun r w => r = none ∧ ∃ (mf2 nf2 rk2 : Nat → Int32), (kr.testBit n = true → rk2 = rkv) ∧ (kr.testBit n = false → okR n (rRes n).2 rkv rk2) ∧ w = [(mo, .inr (5, [.ref th, .ref ea, .ref sa, .ref lk, .ref lq, .ref lz, .int lg, .int un, .int tm, .ref rb, .ref rn, .ref rt, .ref rk, .int (nI (kr ||| 2 ^ n)), .ref cb, .ref cm, .ref cu, .ref ck, .int kc, .int (nI (if kr.testBit n = true then se else se + 1)), .int (nI (if kr.testBit n = true then tt else tt + (resT 0 n).2.2.1)), .ref mk, .ref nt, .ref kp, .ref iq, .int ka, .int wr])), (mk, .inl (G.2.1, 12, .inl mf2)), (nt, .inl (G.2.1, 12, .inl nf2)), (rb, .inl (G.2.1, 8, .inl (sbF 0 (kr ||| 2 ^ n)))), (rn, .inl (G.2.1, 8, .inl (snF 0 (kr ||| 2 ^ n)))), (rt, .inl (G.2.1, 8, .inl (stF 0 (kr ||| 2 ^ n)))), (rk, .inl (G.2.1, 96, .inl rk2))]) 0 0 := by
  refine ct_v (cc := cX8_findRulers) (maxL := 3) (by decide +kernel) rfl (Nat.le_of_ble_eq_true rfl) ?_
  intro p e s mt below meth c A Q X hw hret ls hl
  obtain ⟨hx, hb, -⟩ := id X
  have hl : lv_has ls 3 [(0, .ref mo), (1, .int (nI n))] := hl
  have hr1 := rr_1 hn1 hn
  refine lv_aload_n hx hb dX8_findRulers_0 rfl (lv_at hl 0 rfl) ?_
  refine xg X hw (C := RX8) (T := TX8) (N := 27) (by decide +kernel) 0 rfl rfl 13 (by decide) rfl (by decide +kernel) rfl dX8_findRulers_1 ?_
  refine lv_iload_n hx hb dX8_findRulers_4 rfl (lv_at hl 1 rfl) ?_
  refine lv_ishr hx hb dX8_findRulers_5 ?_
  refine lv_iconst (v := 1) hx hb dX8_findRulers_6 (by decide) ?_
  refine lv_iand hx hb dX8_findRulers_7 ?_
  refine x_cvi (y := nI (kr / 2 ^ n % 2)) (by exact kn_shr hkr (by omega)) ?_
  refine lv_iconst (v := 1) hx hb dX8_findRulers_8 (by decide) ?_
  refine lv_icmp_ne (tgt := 13) hx hb dX8_findRulers_9 (by decide) (fun c9 => ?_) (fun c9 => ?_)
  · have hbt := kn_zero c9
    refine lv_aload_n hx hb dX8_findRulers_13 rfl (lv_at hl 0 rfl) ?_
    refine lv_dup hx hb dX8_findRulers_14 rfl ?_
    refine xg X hw (C := RX8) (T := TX8) (N := 27) (by decide +kernel) 0 rfl rfl 13 (by decide) rfl (by decide +kernel) rfl dX8_findRulers_15 ?_
    refine lv_iconst (v := 1) hx hb dX8_findRulers_18 (by decide) ?_
    refine lv_iload_n hx hb dX8_findRulers_19 rfl (lv_at hl 1 rfl) ?_
    refine lv_ishl hx hb dX8_findRulers_20 ?_
    refine x_cvi (y := nI (2 ^ n)) (by exact shl1 (by omega)) ?_
    refine lv_ior hx hb dX8_findRulers_21 ?_
    refine x_cvi (y := nI (kr ||| 2 ^ n)) (by exact fa_or _ _) ?_
    refine xp X hw (C := RX8) (ty := .int) (T := TX8) (N := 27) (by decide +kernel) tyX8 tyX8_ok nmX8 0 rfl rfl 13 (by decide) rfl (by decide +kernel) rfl (by decide +kernel) rfl rfl (Nat.le_of_ble_eq_true rfl) dX8_findRulers_22 (ws' := [(mo, .inr (5, [.ref th, .ref ea, .ref sa, .ref lk, .ref lq, .ref lz, .int lg, .int un, .int tm, .ref rb, .ref rn, .ref rt, .ref rk, .int (nI (kr ||| 2 ^ n)), .ref cb, .ref cm, .ref cu, .ref ck, .int kc, .int (nI se), .int (nI tt), .ref mk, .ref nt, .ref kp, .ref iq, .int ka, .int wr])), (mk, .inl (G.2.1, 12, .inl mf)), (nt, .inl (G.2.1, 12, .inl nf)), (rb, .inl (G.2.1, 8, .inl (sbF 0 kr))), (rn, .inl (G.2.1, 8, .inl (snF 0 kr))), (rt, .inl (G.2.1, 8, .inl (stF 0 kr))), (rk, .inl (G.2.1, 96, .inl rkv))]) rfl (fun H locs hw => ?_)
    refine lv_aload_n hx hb dX8_findRulers_25 rfl (lv_at hl 0 rfl) ?_
    refine lv_dup hx hb dX8_findRulers_26 rfl ?_
    refine xg X hw (C := RX8) (T := TX8) (N := 27) (by decide +kernel) 0 rfl rfl 19 (by decide) rfl (by decide +kernel) rfl dX8_findRulers_27 ?_
    refine lv_iconst (v := 1) hx hb dX8_findRulers_30 (by decide) ?_
    refine lv_iadd hx hb dX8_findRulers_31 ?_
    refine x_cvi (y := nI (se + 1)) (by exact nI_1 _) ?_
    refine xp X hw (C := RX8) (ty := .int) (T := TX8) (N := 27) (by decide +kernel) tyX8 tyX8_ok nmX8 0 rfl rfl 19 (by decide) rfl (by decide +kernel) rfl (by decide +kernel) rfl rfl (Nat.le_of_ble_eq_true rfl) dX8_findRulers_32 (ws' := [(mo, .inr (5, [.ref th, .ref ea, .ref sa, .ref lk, .ref lq, .ref lz, .int lg, .int un, .int tm, .ref rb, .ref rn, .ref rt, .ref rk, .int (nI (kr ||| 2 ^ n)), .ref cb, .ref cm, .ref cu, .ref ck, .int kc, .int (nI (se + 1)), .int (nI tt), .ref mk, .ref nt, .ref kp, .ref iq, .int ka, .int wr])), (mk, .inl (G.2.1, 12, .inl mf)), (nt, .inl (G.2.1, 12, .inl nf)), (rb, .inl (G.2.1, 8, .inl (sbF 0 kr))), (rn, .inl (G.2.1, 8, .inl (snF 0 kr))), (rt, .inl (G.2.1, 8, .inl (stF 0 kr))), (rk, .inl (G.2.1, 96, .inl rkv))]) rfl (fun H locs hw => ?_)
    refine lv_iload_n hx hb dX8_findRulers_35 rfl (lv_at hl 1 rfl) ?_
    refine lv_iconst (v := 1) hx hb dX8_findRulers_36 (by decide) ?_
    refine lv_isub hx hb dX8_findRulers_37 ?_
    refine x_cvi (y := nI (n - 1)) (by exact pk_sub (b := 1) (by omega)) ?_
    refine xcP (n := 1) (As := [.int (nI (n - 1))]) (rest := []) X hw (c_X8_halved l G (n - 1) (by omega)) gX8_findRulers_X8_halved rfl ⟨rfl, rfl⟩ (by decide +kernel) ⟨by decide, by decide⟩ rfl hl.1 rfl (Nat.le_of_ble_eq_true rfl) dX8_findRulers_38 ⟨by decide, by decide⟩ (fun r w1 H locs hp hw => ?_)
    obtain rfl := hp
    refine W.eq (g2 := F0 mt 41 ls [.int (nI ((n - 1) * ((n - 1) + 1) / 2))]) rfl ?_
    refine x_cvi (y := nI (n * (n - 1) / 2)) (by rw [rr_len (by omega)]) ?_
    refine lv_iconst (v := 1) hx hb dX8_findRulers_41 (by decide) ?_
    refine lv_isub hx hb dX8_findRulers_42 ?_
    refine x_cvi (y := nI (n * (n - 1) / 2 - 1)) (by exact pk_sub (b := 1) (by omega)) ?_
    refine lv_istore_n (lv' := [(2, .int (nI (n * (n - 1) / 2 - 1))), (0, .ref mo), (1, .int (nI n))]) hx hb dX8_findRulers_43 rfl hl (by decide) rfl (fun ls hl => ?_)
    have lp44 : ∀ (fu : Nat) (L : Nat) (mf1 : Nat → Int32) (nf1 : Nat → Int32) (rk1 : Nat → Int32) (nb1 : Nat) (tr1 : Nat) (fi1 : Nat) (fl1 : List Nat) (sz1 : Nat) (H : Heap) (locs : List Loc) (ls : Array Slot), 61 - L < fu → (n * (n - 1) / 2 ≤ L + 1) → (L ≤ 60) → (okR n (nb1, tr1, fi1, fl1) rkv rk1) → (sz1 = L ∨ nb1 = 0) → (rR n (61 - (L + 1)) (L + 1) sz1 (nb1, tr1, fi1, fl1) = rRes n) → WS G A s.heap H locs [(mo, .inr (5, [.ref th, .ref ea, .ref sa, .ref lk, .ref lq, .ref lz, .int lg, .int un, .int tm, .ref rb, .ref rn, .ref rt, .ref rk, .int (nI (kr ||| 2 ^ n)), .ref cb, .ref cm, .ref cu, .ref ck, .int kc, .int (nI (se + 1)), .int (nI tt), .ref mk, .ref nt, .ref kp, .ref iq, .int ka, .int wr])), (mk, .inl (G.2.1, 12, .inl mf1)), (nt, .inl (G.2.1, 12, .inl nf1)), (rb, .inl (G.2.1, 8, .inl (sbF 0 kr))), (rn, .inl (G.2.1, 8, .inl (upd (snF 0 kr) n (nI nb1)))), (rt, .inl (G.2.1, 8, .inl (upd (stF 0 kr) n (nI tr1)))), (rk, .inl (G.2.1, 96, .inl rk1))] → lv_has ls 3 [(0, .ref mo), (1, .int (nI n)), (2, .int (nI L))] → W p l e ({ frames := 2, cells := 0, slots := 0, locals := 52 } : Room) s mt ([.ref mo, .int (nI n)] : List Value).toArray below meth c H locs 0 0 Q (F0 mt 44 ls []) := by
      intro fu
      induction fu with
      | zero =>
        intro L mf1 nf1 rk1 nb1 tr1 fi1 fl1 sz1 H locs ls hmu
        exact absurd hmu (Nat.not_lt_zero _)
      | succ fu ih44 =>
        intro L mf1 nf1 rk1 nb1 tr1 fi1 fl1 sz1 H locs ls hmu44 hL1 hL2 hK hsz hR hw hl
        refine lv_aload_n hx hb dX8_findRulers_44 rfl (lv_at hl 0 rfl) ?_
        refine xg X hw (C := RX8) (T := TX8) (N := 27) (by decide +kernel) 0 rfl rfl 10 (by decide) rfl (by decide +kernel) rfl dX8_findRulers_45 ?_
        refine lv_iload_n hx hb dX8_findRulers_48 rfl (lv_at hl 1 rfl) ?_
        refine xia X hw 4 rfl (j := n) (rfl) (by omega) (by decide) dX8_findRulers_49 ?_
        refine x_cvi (y := nI nb1) (by exact upd_at _ _ _) ?_
        refine lv_if_ne (tgt := 65) hx hb dX8_findRulers_50 (by decide) (fun c50 => ?_) (fun c50 => ?_)
        · have hR2 := (rR_done c50).symm.trans hR
          refine lv_aload_n hx hb dX8_findRulers_65 rfl (lv_at hl 0 rfl) ?_
          refine xg X hw (C := RX8) (T := TX8) (N := 27) (by decide +kernel) 0 rfl rfl 9 (by decide) rfl (by decide +kernel) rfl dX8_findRulers_66 ?_
          refine lv_iload_n hx hb dX8_findRulers_69 rfl (lv_at hl 1 rfl) ?_
          refine lv_iload_n hx hb dX8_findRulers_70 rfl (lv_at hl 2 rfl) ?_
          refine xis X hw 3 rfl (j := n) (rfl) (by omega) (by decide) dX8_findRulers_71 (ws' := [(mo, .inr (5, [.ref th, .ref ea, .ref sa, .ref lk, .ref lq, .ref lz, .int lg, .int un, .int tm, .ref rb, .ref rn, .ref rt, .ref rk, .int (nI (kr ||| 2 ^ n)), .ref cb, .ref cm, .ref cu, .ref ck, .int kc, .int (nI (se + 1)), .int (nI tt), .ref mk, .ref nt, .ref kp, .ref iq, .int ka, .int wr])), (mk, .inl (G.2.1, 12, .inl mf1)), (nt, .inl (G.2.1, 12, .inl nf1)), (rb, .inl (G.2.1, 8, .inl (upd (sbF 0 kr) n (nI L)))), (rn, .inl (G.2.1, 8, .inl (upd (snF 0 kr) n (nI nb1)))), (rt, .inl (G.2.1, 8, .inl (upd (stF 0 kr) n (nI tr1)))), (rk, .inl (G.2.1, 96, .inl rk1))]) rfl (fun H locs hw => ?_)
          have hsz2 : L = (resT 0 n).1 := by rw [res_r, ← hR2]; rcases hsz with z | z; (· exact z.symm); exact absurd (by rw [z]; rfl) c50
          rw [hsz2, sb_up] at hw
          refine lv_aload_n hx hb dX8_findRulers_72 rfl (lv_at hl 0 rfl) ?_
          refine lv_dup hx hb dX8_findRulers_73 rfl ?_
          refine xg X hw (C := RX8) (T := TX8) (N := 27) (by decide +kernel) 0 rfl rfl 20 (by decide) rfl (by decide +kernel) rfl dX8_findRulers_74 ?_
          refine lv_aload_n hx hb dX8_findRulers_77 rfl (lv_at hl 0 rfl) ?_
          refine xg X hw (C := RX8) (T := TX8) (N := 27) (by decide +kernel) 0 rfl rfl 11 (by decide) rfl (by decide +kernel) rfl dX8_findRulers_78 ?_
          refine lv_iload_n hx hb dX8_findRulers_81 rfl (lv_at hl 1 rfl) ?_
          refine xia X hw 5 rfl (j := n) (rfl) (by omega) (by decide) dX8_findRulers_82 ?_
          refine x_cvi (y := nI tr1) (by exact upd_at _ _ _) ?_
          refine lv_iadd hx hb dX8_findRulers_83 ?_
          refine x_cvi (y := nI (tt + tr1)) (by exact nI_add _ _) ?_
          refine xp X hw (C := RX8) (ty := .int) (T := TX8) (N := 27) (by decide +kernel) tyX8 tyX8_ok nmX8 0 rfl rfl 20 (by decide) rfl (by decide +kernel) rfl (by decide +kernel) rfl rfl (Nat.le_of_ble_eq_true rfl) dX8_findRulers_84 (ws' := [(mo, .inr (5, [.ref th, .ref ea, .ref sa, .ref lk, .ref lq, .ref lz, .int lg, .int un, .int tm, .ref rb, .ref rn, .ref rt, .ref rk, .int (nI (kr ||| 2 ^ n)), .ref cb, .ref cm, .ref cu, .ref ck, .int kc, .int (nI (se + 1)), .int (nI (tt + tr1)), .ref mk, .ref nt, .ref kp, .ref iq, .int ka, .int wr])), (mk, .inl (G.2.1, 12, .inl mf1)), (nt, .inl (G.2.1, 12, .inl nf1)), (rb, .inl (G.2.1, 8, .inl (sbF 0 (kr ||| 2 ^ n)))), (rn, .inl (G.2.1, 8, .inl (upd (snF 0 kr) n (nI nb1)))), (rt, .inl (G.2.1, 8, .inl (upd (stF 0 kr) n (nI tr1)))), (rk, .inl (G.2.1, 96, .inl rk1))]) rfl (fun H locs hw => ?_)
          refine hret _ _ _ _ _ dX8_findRulers_87 hw ?_
          refine ⟨rfl, mf1, nf1, rk1, fun q => absurd (q.symm.trans hbt) (by decide), fun _ => by rw [← hR2]; exact hK, ?_⟩
          rw [if_neg (by rw [hbt]; decide), if_neg (by rw [hbt]; decide), ← sn_up, ← st_up, res_r, ← hR2]
        · have hL60 := rr_z hn1 hn hR c50
          refine lv_iinc (v := nI (L + 1)) (lv' := [(2, .int (nI (L + 1))), (0, .ref mo), (1, .int (nI n))]) hx hb dX8_findRulers_53 hl (k := 2) rfl (by exact nI_1 _) (by decide) rfl (fun ls hl => ?_)
          refine lv_aload_n hx hb dX8_findRulers_56 rfl (lv_at hl 1 rfl) ?_
          refine lv_iload_n hx hb dX8_findRulers_57 rfl (lv_at hl 2 rfl) ?_
          refine lv_iload_n hx hb dX8_findRulers_58 rfl (lv_at hl 0 rfl) ?_
          refine xcV (n := 2) (As := [.int (nI n), .int (nI (L + 1))]) (rest := []) (wc := [(mo, .inr (5, [.ref th, .ref ea, .ref sa, .ref lk, .ref lq, .ref lz, .int lg, .int un, .int tm, .ref rb, .ref rn, .ref rt, .ref rk, .int (nI (kr ||| 2 ^ n)), .ref cb, .ref cm, .ref cu, .ref ck, .int kc, .int (nI (se + 1)), .int (nI tt), .ref mk, .ref nt, .ref kp, .ref iq, .int ka, .int wr])), (mk, .inl (G.2.1, 12, .inl mf1)), (nt, .inl (G.2.1, 12, .inl nf1)), (rn, .inl (G.2.1, 8, .inl (upd (snF 0 kr) n (nI nb1)))), (rt, .inl (G.2.1, 8, .inl (upd (stF 0 kr) n (nI tr1)))), (rk, .inl (G.2.1, 96, .inl rk1))]) (wr := [(rb, .inl (G.2.1, 8, .inl (sbF 0 kr)))]) X hw (c_X8_searchRulers l G mo th ea sa lk lq lz rb rn rt rk cb cm cu ck mk nt kp iq lg un tm (nI (kr ||| 2 ^ n)) kc (nI (se + 1)) (nI tt) ka wr mf1 nf1 (snF 0 kr) (stF 0 kr) rkv rk1 nb1 tr1 fi1 fl1 n (L + 1) hn1 hn hL60 (by omega) hK) (C := RX8) gX8_findRulers_X8_searchRulers (q0 := 0) rfl rfl rfl ⟨rfl, rfl⟩ (by decide +kernel) ⟨by decide, by decide⟩ rfl hl.1 rfl (Nat.le_of_ble_eq_true rfl) dX8_findRulers_59 ⟨by decide, by decide⟩ [0, 1, 2, 4, 5, 6] [3] rfl rfl rfl rfl (by decide) (fun r w1 H locs hp hw => ?_)
          obtain ⟨rfl, mf2, nf2, rk2, hK2, rfl⟩ := hp
          generalize hacc : rT (L + 1) (n - 1) 0 1 0 1 [0] (nb1, tr1, fi1, fl1) = acc at hw hK2
          obtain ⟨nb2, tr2, fi2, fl2⟩ := acc
          have hw := hw.sub (ws' := [(mo, .inr (5, [.ref th, .ref ea, .ref sa, .ref lk, .ref lq, .ref lz, .int lg, .int un, .int tm, .ref rb, .ref rn, .ref rt, .ref rk, .int (nI (kr ||| 2 ^ n)), .ref cb, .ref cm, .ref cu, .ref ck, .int kc, .int (nI (se + 1)), .int (nI tt), .ref mk, .ref nt, .ref kp, .ref iq, .int ka, .int wr])), (mk, .inl (G.2.1, 12, .inl mf2)), (nt, .inl (G.2.1, 12, .inl nf2)), (rb, .inl (G.2.1, 8, .inl (sbF 0 kr))), (rn, .inl (G.2.1, 8, .inl (upd (snF 0 kr) n (nI nb2)))), (rt, .inl (G.2.1, 8, .inl (upd (stF 0 kr) n (nI tr2)))), (rk, .inl (G.2.1, 96, .inl rk2))]) [1, 2, 3, 0, 4, 5, 6] rfl rfl
          refine W.eq (g2 := F0 mt 62 ls []) rfl ?_
          refine lv_goto (tgt := 44) hx hb dX8_findRulers_62 (by decide) ?_
          exact ih44 (L + 1) mf2 nf2 rk2 nb2 tr2 fi2 fl2 (L + 1) _ _ _ (by omega) (by omega) (by omega) (hK2) (Or.inl rfl) (by rw [show 61 - (L + 1) = (61 - (L + 1 + 1)) + 1 by omega, rR_s, if_pos c50, hacc] at hR; exact hR) hw (lv_sub hl [1, 2, 0] rfl)
    have hw : WS G A s.heap H locs [(mo, .inr (5, [.ref th, .ref ea, .ref sa, .ref lk, .ref lq, .ref lz, .int lg, .int un, .int tm, .ref rb, .ref rn, .ref rt, .ref rk, .int (nI (kr ||| 2 ^ n)), .ref cb, .ref cm, .ref cu, .ref ck, .int kc, .int (nI (se + 1)), .int (nI tt), .ref mk, .ref nt, .ref kp, .ref iq, .int ka, .int wr])), (mk, .inl (G.2.1, 12, .inl mf)), (nt, .inl (G.2.1, 12, .inl nf)), (rb, .inl (G.2.1, 8, .inl (sbF 0 kr))), (rn, .inl (G.2.1, 8, .inl (upd (snF 0 kr) n (nI 0)))), (rt, .inl (G.2.1, 8, .inl (upd (stF 0 kr) n (nI 0)))), (rk, .inl (G.2.1, 96, .inl rkv))] := by rw [sn_0 hbt, st_0 hbt]; exact hw
    exact lp44 _ (n * (n - 1) / 2 - 1) mf nf rkv 0 0 0 ([]) 0 _ _ _ (Nat.lt_succ_self _) (by omega) (by omega) (⟨fun _ _ => rfl, fun h => absurd rfl h⟩) (Or.inr rfl) (by rw [show n * (n - 1) / 2 - 1 + 1 = n * (n - 1) / 2 by omega]; rfl) hw (lv_sub hl [1, 2, 0] rfl)
  · have hbt := kn_one c9
    refine hret _ _ _ _ _ dX8_findRulers_12 hw ?_
    exact ⟨rfl, mf, nf, rkv, fun _ => rfl, fun q => absurd (hbt.symm.trans q) (by decide), by rw [or_known hbt, if_pos hbt, if_pos hbt]⟩
