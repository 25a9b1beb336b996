set_option maxHeartbeats 4000000 in
set_option maxRecDepth 100000 in
theorem c_X8_searchCovers2 (l : Launch) (G : GG) (mo : Nat) (th : Nat) (ea : Nat) (sa : Nat) (lk : Nat) (lq : Nat) (lz : Nat) (rb : Nat) (rn : Nat) (rt : Nat) (rk : Nat) (cb : Nat) (cm : Nat) (cu : Nat) (ck : Nat) (mk : Nat) (nt : Nat) (kp : Nat) (iq : Nat) (lg : Int32) (un : Int32) (tm : Int32) (kr : Int32) (kc : Int32) (se : Int32) (tr : Int32) (ka : Int32) (wr : Int32) (mf : Nat → Int32) (nf : Nat → Int32) (cmf : Nat → Int32) (cuf : Nat → Int32) (rk0 : Nat → Int32) (rkv : Nat → Int32) (nb : Nat) (tr0 : Nat) (fi : Nat) (fl : List Nat) (len : Nat) (hl1 : 1 ≤ len) (hlen : len ≤ 20) (hK0 : okRC len (nb, tr0, fi, fl) rk0 rkv) : CT l G yX8_searchCovers wsX8_searchCovers ({ frames := 1, cells := 0, slots := 0, locals := 27 } : Room) [.ref mo, .int (nI len), .int (nI 2)] [(mo, .inr (5, [.ref th, .ref ea, .ref sa, .ref lk, .ref lq, .ref lz, .int lg, .int un, .int tm, .ref rb, .ref rn, .ref rt, .ref rk, .int kr, .ref cb, .ref cm, .ref cu, .ref ck, .int kc, .int se, .int tr, .ref mk, .ref nt, .ref kp, .ref iq, .int ka, .int wr])), (mk, .inl (G.2.1, 12, .inl mf)), (nt, .inl (G.2.1, 12, .inl nf)), (cm, .inl (G.2.1, 21, .inl (upd cmf len (nI nb)))), (cu, .inl (G.2.1, 21, .inl (upd cuf len (nI tr0)))), (ck, .inl (G.2.1, 252, .inl rkv))] (fun r w => r = none ∧ ∃ (mf2 nf2 rk2 : Nat → Int32), okRC len (cOne len 2 (nb, tr0, fi, fl)) rk0 rk2 ∧ w = [(mo, .inr (5, [.ref th, .ref ea, .ref sa, .ref lk, .ref lq, .ref lz, .int lg, .int un, .int tm, .ref rb, .ref rn, .ref rt, .ref rk, .int kr, .ref cb, .ref cm, .ref cu, .ref ck, .int kc, .int se, .int tr, .ref mk, .ref nt, .ref kp, .ref iq, .int ka, .int wr])), (mk, .inl (G.2.1, 12, .inl mf2)), (nt, .inl (G.2.1, 12, .inl nf2)), (cm, .inl (G.2.1, 21, .inl (upd cmf len (nI (cOne len 2 (nb, tr0, fi, fl)).1)))), (cu, .inl (G.2.1, 21, .inl (upd cuf len (nI (cOne len 2 (nb, tr0, fi, fl)).2.1)))), (ck, .inl (G.2.1, 252, .inl rk2))]) 0 0 := by
  refine ct_v (cc := cX8_searchCovers) (maxL := 7) (by decide +kernel) rfl (Nat.le_of_ble_eq_true rfl) ?_
  intro p e s mt below meth c A Q X hw hret ls hl
  obtain ⟨hx, hb, -⟩ := id X
  have hl : lv_has ls 7 [(0, .ref mo), (1, .int (nI len)), (2, .int (nI 2))] := hl
  refine lv_aload_n hx hb dX8_searchCovers_0 rfl (lv_at hl 0 rfl) ?_
  refine xg X hw (C := RX8) (T := TX8) (N := 27) (by decide +kernel) 0 rfl rfl 21 (by decide) rfl (by decide +kernel) rfl dX8_searchCovers_1 ?_
  refine lv_iconst (v := 0) hx hb dX8_searchCovers_4 (by decide) ?_
  refine x_cvi (y := nI 0) (by rfl) ?_
  refine lv_iconst (v := 0) hx hb dX8_searchCovers_5 (by decide) ?_
  refine x_cvi (y := nI 0) (by rfl) ?_
  refine xis X hw 1 rfl (j := 0) (rfl) (by decide) (by decide) dX8_searchCovers_6 (ws' := [(mo, .inr (5, [.ref th, .ref ea, .ref sa, .ref lk, .ref lq, .ref lz, .int lg, .int un, .int tm, .ref rb, .ref rn, .ref rt, .ref rk, .int kr, .ref cb, .ref cm, .ref cu, .ref ck, .int kc, .int se, .int tr, .ref mk, .ref nt, .ref kp, .ref iq, .int ka, .int wr])), (mk, .inl (G.2.1, 12, .inl (upd mf 0 (nI 0)))), (nt, .inl (G.2.1, 12, .inl nf)), (cm, .inl (G.2.1, 21, .inl (upd cmf len (nI nb)))), (cu, .inl (G.2.1, 21, .inl (upd cuf len (nI tr0)))), (ck, .inl (G.2.1, 252, .inl rkv))]) rfl (fun H locs hw => ?_)
  refine lv_aload_n hx hb dX8_searchCovers_7 rfl (lv_at hl 0 rfl) ?_
  refine xg X hw (C := RX8) (T := TX8) (N := 27) (by decide +kernel) 0 rfl rfl 21 (by decide) rfl (by decide +kernel) rfl dX8_searchCovers_8 ?_
  refine lv_iconst (v := 1) hx hb dX8_searchCovers_11 (by decide) ?_
  refine x_cvi (y := nI 1) (by rfl) ?_
  refine lv_iload_n hx hb dX8_searchCovers_12 rfl (lv_at hl 1 rfl) ?_
  refine xis X hw 1 rfl (j := 1) (rfl) (by decide) (by decide) dX8_searchCovers_13 (ws' := [(mo, .inr (5, [.ref th, .ref ea, .ref sa, .ref lk, .ref lq, .ref lz, .int lg, .int un, .int tm, .ref rb, .ref rn, .ref rt, .ref rk, .int kr, .ref cb, .ref cm, .ref cu, .ref ck, .int kc, .int se, .int tr, .ref mk, .ref nt, .ref kp, .ref iq, .int ka, .int wr])), (mk, .inl (G.2.1, 12, .inl (upd (upd mf 0 (nI 0)) 1 (nI len)))), (nt, .inl (G.2.1, 12, .inl nf)), (cm, .inl (G.2.1, 21, .inl (upd cmf len (nI nb)))), (cu, .inl (G.2.1, 21, .inl (upd cuf len (nI tr0)))), (ck, .inl (G.2.1, 252, .inl rkv))]) rfl (fun H locs hw => ?_)
  refine lv_iload_n hx hb dX8_searchCovers_14 rfl (lv_at hl 2 rfl) ?_
  refine lv_iconst (v := 2) hx hb dX8_searchCovers_15 (by decide) ?_
  refine lv_icmp_ne (tgt := 34) hx hb dX8_searchCovers_16 (by decide) (fun c16 => ?_) (fun c16 => ?_)
  · exact absurd rfl c16
  · skip
    refine lv_aload_n hx hb dX8_searchCovers_19 rfl (lv_at hl 0 rfl) ?_
    refine lv_iload_n hx hb dX8_searchCovers_20 rfl (lv_at hl 1 rfl) ?_
    refine lv_iconst (v := 2) hx hb dX8_searchCovers_21 (by decide) ?_
    refine x_cvi (y := nI 2) (by rfl) ?_
    refine xcV (n := 2) (As := [.int (nI len), .int (nI 2)]) (rest := []) (wc := [(mo, .inr (5, [.ref th, .ref ea, .ref sa, .ref lk, .ref lq, .ref lz, .int lg, .int un, .int tm, .ref rb, .ref rn, .ref rt, .ref rk, .int kr, .ref cb, .ref cm, .ref cu, .ref ck, .int kc, .int se, .int tr, .ref mk, .ref nt, .ref kp, .ref iq, .int ka, .int wr])), (mk, .inl (G.2.1, 12, .inl (upd (upd mf 0 (nI 0)) 1 (nI len))))]) (wr := [(nt, .inl (G.2.1, 12, .inl nf)), (cm, .inl (G.2.1, 21, .inl (upd cmf len (nI nb)))), (cu, .inl (G.2.1, 21, .inl (upd cuf len (nI tr0)))), (ck, .inl (G.2.1, 252, .inl rkv))]) X hw (c_X8_lacking l G mo th ea sa lk lq lz rb rn rt rk cb cm cu ck mk nt kp iq lg un tm kr kc se tr ka wr (upd (upd mf 0 (nI 0)) 1 (nI len)) (cfL len [0]) 2 len (okC_0 mf) (fun j hj => cf_le (ms := [0]) (fun y h => by rcases List.mem_cons.mp h with q | q; (· omega); cases q) (by omega) j hj) (by decide) hlen) (C := RX8) gX8_searchCovers_X8_lacking (q0 := 0) rfl rfl rfl ⟨rfl, rfl⟩ (by decide +kernel) ⟨by decide, by decide⟩ rfl hl.1 rfl (Nat.le_of_ble_eq_true rfl) dX8_searchCovers_22 ⟨by decide, by decide⟩ [0, 1] [2, 3, 4, 5] rfl rfl rfl rfl (by decide) (fun r w1 H locs hp hw => ?_)
    obtain ⟨rfl, rfl⟩ := hp
    have hw := hw.sub (ws' := [(mo, .inr (5, [.ref th, .ref ea, .ref sa, .ref lk, .ref lq, .ref lz, .int lg, .int un, .int tm, .ref rb, .ref rn, .ref rt, .ref rk, .int kr, .ref cb, .ref cm, .ref cu, .ref ck, .int kc, .int se, .int tr, .ref mk, .ref nt, .ref kp, .ref iq, .int ka, .int wr])), (mk, .inl (G.2.1, 12, .inl (upd (upd mf 0 (nI 0)) 1 (nI len)))), (nt, .inl (G.2.1, 12, .inl nf)), (cm, .inl (G.2.1, 21, .inl (upd cmf len (nI nb)))), (cu, .inl (G.2.1, 21, .inl (upd cuf len (nI tr0)))), (ck, .inl (G.2.1, 252, .inl rkv))]) [4, 5, 0, 1, 2, 3] rfl rfl
    refine W.eq (g2 := F0 mt 25 ls [.int (nI (fb_ct (lkA (cfL len [0]) 2) len))]) rfl ?_
    refine x_cvi (y := nI (len - pcQ (2 ^ len))) (by rw [← lc_0 len]; exact congrArg nI (lk_eq srt_0 (fun y h => by rcases List.mem_cons.mp h with q | q; (· omega); cases q) rfl (by simp) (by omega))) ?_
    refine lv_if_ne (tgt := 34) hx hb dX8_searchCovers_25 (by decide) (fun c25 => ?_) (fun c25 => ?_)
    · have hz : ¬ len - pcQ (2 ^ len) = 0 := fun q => c25 (by rw [q]; rfl)
      refine lv_iload_n hx hb dX8_searchCovers_34 rfl (lv_at hl 2 rfl) ?_
      refine lv_iconst (v := 2) hx hb dX8_searchCovers_35 (by decide) ?_
      refine lv_icmp_ne (tgt := 43) hx hb dX8_searchCovers_36 (by decide) (fun c36 => ?_) (fun c36 => ?_)
      · exact absurd rfl c36
      · skip
        refine lv_iconst (v := 1) hx hb dX8_searchCovers_39 (by decide) ?_
        refine x_cvi (y := nI 1) (by rfl) ?_
        refine lv_goto (tgt := 44) hx hb dX8_searchCovers_40 (by decide) ?_
        refine lv_istore_n (lv' := [(3, .int (nI 1)), (0, .ref mo), (1, .int (nI len)), (2, .int (nI 2))]) hx hb dX8_searchCovers_44 rfl hl (by decide) rfl (fun ls hl => ?_)
        refine lv_aload_n hx hb dX8_searchCovers_45 rfl (lv_at hl 1 rfl) ?_
        refine xg X hw (C := RX8) (T := TX8) (N := 27) (by decide +kernel) 0 rfl rfl 22 (by decide) rfl (by decide +kernel) rfl dX8_searchCovers_46 ?_
        refine lv_iconst (v := 2) hx hb dX8_searchCovers_49 (by decide) ?_
        refine x_cvi (y := nI 2) (by rfl) ?_
        refine lv_iconst (v := 1) hx hb dX8_searchCovers_50 (by decide) ?_
        refine x_cvi (y := nI 1) (by rfl) ?_
        refine xis X hw 2 rfl (j := 2) (rfl) (by decide) (by decide) dX8_searchCovers_51 (ws' := [(mo, .inr (5, [.ref th, .ref ea, .ref sa, .ref lk, .ref lq, .ref lz, .int lg, .int un, .int tm, .ref rb, .ref rn, .ref rt, .ref rk, .int kr, .ref cb, .ref cm, .ref cu, .ref ck, .int kc, .int se, .int tr, .ref mk, .ref nt, .ref kp, .ref iq, .int ka, .int wr])), (mk, .inl (G.2.1, 12, .inl (upd (upd mf 0 (nI 0)) 1 (nI len)))), (nt, .inl (G.2.1, 12, .inl (upd nf 2 (nI 1)))), (cm, .inl (G.2.1, 21, .inl (upd cmf len (nI nb)))), (cu, .inl (G.2.1, 21, .inl (upd cuf len (nI tr0)))), (ck, .inl (G.2.1, 252, .inl rkv))]) rfl (fun H locs hw => ?_)
        refine lv_iload_n hx hb dX8_searchCovers_52 rfl (lv_at hl 0 rfl) ?_
        refine lv_iconst (v := 1) hx hb dX8_searchCovers_53 (by decide) ?_
        refine lv_icmp_le (tgt := 171) hx hb dX8_searchCovers_54 (by decide) (fun c54 => ?_) (fun c54 => ?_)
        · skip
          refine hret _ _ _ _ _ dX8_searchCovers_171 hw ?_
          rw [cOne_n hz]
          exact ⟨rfl, _, _, _, hK0, rfl⟩
        · exact absurd (by decide) c54
    · have hz : len - pcQ (2 ^ len) = 0 := i_eq (b := 0) (by omega) (by decide) c25
      refine lv_aload_n hx hb dX8_searchCovers_28 rfl (lv_at hl 0 rfl) ?_
      refine lv_iload_n hx hb dX8_searchCovers_29 rfl (lv_at hl 1 rfl) ?_
      refine lv_iconst (v := 2) hx hb dX8_searchCovers_30 (by decide) ?_
      refine x_cvi (y := nI 2) (by rfl) ?_
      refine xcV (n := 2) (As := [.int (nI len), .int (nI 2)]) (rest := []) (wc := [(mo, .inr (5, [.ref th, .ref ea, .ref sa, .ref lk, .ref lq, .ref lz, .int lg, .int un, .int tm, .ref rb, .ref rn, .ref rt, .ref rk, .int kr, .ref cb, .ref cm, .ref cu, .ref ck, .int kc, .int se, .int tr, .ref mk, .ref nt, .ref kp, .ref iq, .int ka, .int wr])), (mk, .inl (G.2.1, 12, .inl (upd (upd mf 0 (nI 0)) 1 (nI len)))), (cm, .inl (G.2.1, 21, .inl (upd cmf len (nI nb)))), (ck, .inl (G.2.1, 252, .inl rkv))]) (wr := [(nt, .inl (G.2.1, 12, .inl nf)), (cu, .inl (G.2.1, 21, .inl (upd cuf len (nI tr0))))]) X hw (c_X8_noteCover l G mo th ea sa lk lq lz rb rn rt rk cb cm cu ck mk nt kp iq lg un tm kr kc se tr ka wr (upd (upd mf 0 (nI 0)) 1 (nI len)) cmf rkv nb len 2 hlen (by decide) (by decide)) (C := RX8) gX8_searchCovers_X8_noteCover (q0 := 0) rfl rfl rfl ⟨rfl, rfl⟩ (by decide +kernel) ⟨by decide, by decide⟩ rfl hl.1 rfl (Nat.le_of_ble_eq_true rfl) dX8_searchCovers_31 ⟨by decide, by decide⟩ [0, 1, 3, 5] [2, 4] rfl rfl rfl rfl (by decide) (fun r w1 H locs hp hw => ?_)
      obtain ⟨rfl, rfl⟩ := hp
      have hw := hw.sub (ws' := [(mo, .inr (5, [.ref th, .ref ea, .ref sa, .ref lk, .ref lq, .ref lz, .int lg, .int un, .int tm, .ref rb, .ref rn, .ref rt, .ref rk, .int kr, .ref cb, .ref cm, .ref cu, .ref ck, .int kc, .int se, .int tr, .ref mk, .ref nt, .ref kp, .ref iq, .int ka, .int wr])), (mk, .inl (G.2.1, 12, .inl (upd (upd mf 0 (nI 0)) 1 (nI len)))), (nt, .inl (G.2.1, 12, .inl nf)), (cm, .inl (G.2.1, 21, .inl (upd cmf len (nI (nb + 1))))), (cu, .inl (G.2.1, 21, .inl (upd cuf len (nI tr0)))), (ck, .inl (G.2.1, 252, .inl (if nI nb = 0 then cpy (cvf len 2 (upd (upd mf 0 (nI 0)) 1 (nI len))) rkv (12 * len) 2 else rkv)))]) [2, 3, 0, 4, 1, 5] rfl rfl
      refine W.eq (g2 := F0 mt 34 ls []) rfl ?_
      refine lv_iload_n hx hb dX8_searchCovers_34 rfl (lv_at hl 2 rfl) ?_
      refine lv_iconst (v := 2) hx hb dX8_searchCovers_35 (by decide) ?_
      refine lv_icmp_ne (tgt := 43) hx hb dX8_searchCovers_36 (by decide) (fun c36 => ?_) (fun c36 => ?_)
      · exact absurd rfl c36
      · skip
        refine lv_iconst (v := 1) hx hb dX8_searchCovers_39 (by decide) ?_
        refine x_cvi (y := nI 1) (by rfl) ?_
        refine lv_goto (tgt := 44) hx hb dX8_searchCovers_40 (by decide) ?_
        refine lv_istore_n (lv' := [(3, .int (nI 1)), (0, .ref mo), (1, .int (nI len)), (2, .int (nI 2))]) hx hb dX8_searchCovers_44 rfl hl (by decide) rfl (fun ls hl => ?_)
        refine lv_aload_n hx hb dX8_searchCovers_45 rfl (lv_at hl 1 rfl) ?_
        refine xg X hw (C := RX8) (T := TX8) (N := 27) (by decide +kernel) 0 rfl rfl 22 (by decide) rfl (by decide +kernel) rfl dX8_searchCovers_46 ?_
        refine lv_iconst (v := 2) hx hb dX8_searchCovers_49 (by decide) ?_
        refine x_cvi (y := nI 2) (by rfl) ?_
        refine lv_iconst (v := 1) hx hb dX8_searchCovers_50 (by decide) ?_
        refine x_cvi (y := nI 1) (by rfl) ?_
        refine xis X hw 2 rfl (j := 2) (rfl) (by decide) (by decide) dX8_searchCovers_51 (ws' := [(mo, .inr (5, [.ref th, .ref ea, .ref sa, .ref lk, .ref lq, .ref lz, .int lg, .int un, .int tm, .ref rb, .ref rn, .ref rt, .ref rk, .int kr, .ref cb, .ref cm, .ref cu, .ref ck, .int kc, .int se, .int tr, .ref mk, .ref nt, .ref kp, .ref iq, .int ka, .int wr])), (mk, .inl (G.2.1, 12, .inl (upd (upd mf 0 (nI 0)) 1 (nI len)))), (nt, .inl (G.2.1, 12, .inl (upd nf 2 (nI 1)))), (cm, .inl (G.2.1, 21, .inl (upd cmf len (nI (nb + 1))))), (cu, .inl (G.2.1, 21, .inl (upd cuf len (nI tr0)))), (ck, .inl (G.2.1, 252, .inl (if nI nb = 0 then cpy (cvf len 2 (upd (upd mf 0 (nI 0)) 1 (nI len))) rkv (12 * len) 2 else rkv)))]) rfl (fun H locs hw => ?_)
        refine lv_iload_n hx hb dX8_searchCovers_52 rfl (lv_at hl 0 rfl) ?_
        refine lv_iconst (v := 1) hx hb dX8_searchCovers_53 (by decide) ?_
        refine lv_icmp_le (tgt := 171) hx hb dX8_searchCovers_54 (by decide) (fun c54 => ?_) (fun c54 => ?_)
        · skip
          refine hret _ _ _ _ _ dX8_searchCovers_171 hw ?_
          rw [cOne_y hz]
          exact ⟨rfl, _, _, _, okRC_add (x := 1 ||| 2 ^ len) (n := 2) (xs := [0]) hK0 (by decide) (by decide) rfl rfl (okC_0 mf), rfl⟩
        · exact absurd (by decide) c54

set_option maxHeartbeats 4000000 in
set_option maxRecDepth 100000 in
theorem c_X8_searchCovers3 (l : Launch) (G : GG) (mo : Nat) (th : Nat) (ea : Nat) (sa : Nat) (lk : Nat) (lq : Nat) (lz : Nat) (rb : Nat) (rn : Nat) (rt : Nat) (rk : Nat) (cb : Nat) (cm : Nat) (cu : Nat) (ck : Nat) (mk : Nat) (nt : Nat) (kp : Nat) (iq : Nat) (lg : Int32) (un : Int32) (tm : Int32) (kr : Int32) (kc : Int32) (se : Int32) (tr : Int32) (ka : Int32) (wr : Int32) (mf : Nat → Int32) (nf : Nat → Int32) (cmf : Nat → Int32) (cuf : Nat → Int32) (rk0 : Nat → Int32) (rkv : Nat → Int32) (nb : Nat) (tr0 : Nat) (fi : Nat) (fl : List Nat) (len : Nat) (n : Nat) (hl1 : 1 ≤ len) (hlen : len ≤ 20) (hn2 : 2 < n) (hn : n ≤ 12) (hK0 : okRC len (nb, tr0, fi, fl) rk0 rkv) : CT l G yX8_searchCovers wsX8_searchCovers ({ frames := 1, cells := 0, slots := 0, locals := 27 } : Room) [.ref mo, .int (nI len), .int (nI n)] [(mo, .inr (5, [.ref th, .ref ea, .ref sa, .ref lk, .ref lq, .ref lz, .int lg, .int un, .int tm, .ref rb, .ref rn, .ref rt, .ref rk, .int kr, .ref cb, .ref cm, .ref cu, .ref ck, .int kc, .int se, .int tr, .ref mk, .ref nt, .ref kp, .ref iq, .int ka, .int wr])), (mk, .inl (G.2.1, 12, .inl mf)), (nt, .inl (G.2.1, 12, .inl nf)), (cm, .inl (G.2.1, 21, .inl (upd cmf len (nI nb)))), (cu, .inl (G.2.1, 21, .inl (upd cuf len (nI tr0)))), (ck, .inl (G.2.1, 252, .inl rkv))] (fun r w => r = none ∧ ∃ (mf2 nf2 rk2 : Nat → Int32), okRC len (cOne len n (nb, tr0, fi, fl)) rk0 rk2 ∧ w = [(mo, .inr (5, [.ref th, .ref ea, .ref sa, .ref lk, .ref lq, .ref lz, .int lg, .int un, .int tm, .ref rb, .ref rn, .ref rt, .ref rk, .int kr, .ref cb, .ref cm, .ref cu, .ref ck, .int kc, .int se, .int tr, .ref mk, .ref nt, .ref kp, .ref iq, .int ka, .int wr])), (mk, .inl (G.2.1, 12, .inl mf2)), (nt, .inl (G.2.1, 12, .inl nf2)), (cm, .inl (G.2.1, 21, .inl (upd cmf len (nI (cOne len n (nb, tr0, fi, fl)).1)))), (cu, .inl (G.2.1, 21, .inl (upd cuf len (nI (cOne len n (nb, tr0, fi, fl)).2.1)))), (ck, .inl (G.2.1, 252, .inl rk2))]) 0 0 := by
  refine ct_v (cc := cX8_searchCovers) (maxL := 7) (by decide +kernel) rfl (Nat.le_of_ble_eq_true rfl) ?_
  intro p e s mt below meth c A Q X hw hret ls hl
  obtain ⟨hx, hb, -⟩ := id X
  have hl : lv_has ls 7 [(0, .ref mo), (1, .int (nI len)), (2, .int (nI n))] := hl
  refine lv_aload_n hx hb dX8_searchCovers_0 rfl (lv_at hl 0 rfl) ?_
  refine xg X hw (C := RX8) (T := TX8) (N := 27) (by decide +kernel) 0 rfl rfl 21 (by decide) rfl (by decide +kernel) rfl dX8_searchCovers_1 ?_
  refine lv_iconst (v := 0) hx hb dX8_searchCovers_4 (by decide) ?_
  refine x_cvi (y := nI 0) (by rfl) ?_
  refine lv_iconst (v := 0) hx hb dX8_searchCovers_5 (by decide) ?_
  refine x_cvi (y := nI 0) (by rfl) ?_
  refine xis X hw 1 rfl (j := 0) (rfl) (by decide) (by decide) dX8_searchCovers_6 (ws' := [(mo, .inr (5, [.ref th, .ref ea, .ref sa, .ref lk, .ref lq, .ref lz, .int lg, .int un, .int tm, .ref rb, .ref rn, .ref rt, .ref rk, .int kr, .ref cb, .ref cm, .ref cu, .ref ck, .int kc, .int se, .int tr, .ref mk, .ref nt, .ref kp, .ref iq, .int ka, .int wr])), (mk, .inl (G.2.1, 12, .inl (upd mf 0 (nI 0)))), (nt, .inl (G.2.1, 12, .inl nf)), (cm, .inl (G.2.1, 21, .inl (upd cmf len (nI nb)))), (cu, .inl (G.2.1, 21, .inl (upd cuf len (nI tr0)))), (ck, .inl (G.2.1, 252, .inl rkv))]) rfl (fun H locs hw => ?_)
  refine lv_aload_n hx hb dX8_searchCovers_7 rfl (lv_at hl 0 rfl) ?_
  refine xg X hw (C := RX8) (T := TX8) (N := 27) (by decide +kernel) 0 rfl rfl 21 (by decide) rfl (by decide +kernel) rfl dX8_searchCovers_8 ?_
  refine lv_iconst (v := 1) hx hb dX8_searchCovers_11 (by decide) ?_
  refine x_cvi (y := nI 1) (by rfl) ?_
  refine lv_iload_n hx hb dX8_searchCovers_12 rfl (lv_at hl 1 rfl) ?_
  refine xis X hw 1 rfl (j := 1) (rfl) (by decide) (by decide) dX8_searchCovers_13 (ws' := [(mo, .inr (5, [.ref th, .ref ea, .ref sa, .ref lk, .ref lq, .ref lz, .int lg, .int un, .int tm, .ref rb, .ref rn, .ref rt, .ref rk, .int kr, .ref cb, .ref cm, .ref cu, .ref ck, .int kc, .int se, .int tr, .ref mk, .ref nt, .ref kp, .ref iq, .int ka, .int wr])), (mk, .inl (G.2.1, 12, .inl (upd (upd mf 0 (nI 0)) 1 (nI len)))), (nt, .inl (G.2.1, 12, .inl nf)), (cm, .inl (G.2.1, 21, .inl (upd cmf len (nI nb)))), (cu, .inl (G.2.1, 21, .inl (upd cuf len (nI tr0)))), (ck, .inl (G.2.1, 252, .inl rkv))]) rfl (fun H locs hw => ?_)
  refine lv_iload_n hx hb dX8_searchCovers_14 rfl (lv_at hl 2 rfl) ?_
  refine lv_iconst (v := 2) hx hb dX8_searchCovers_15 (by decide) ?_
  refine lv_icmp_ne (tgt := 34) hx hb dX8_searchCovers_16 (by decide) (fun c16 => ?_) (fun c16 => ?_)
  · skip
    refine lv_iload_n hx hb dX8_searchCovers_34 rfl (lv_at hl 2 rfl) ?_
    refine lv_iconst (v := 2) hx hb dX8_searchCovers_35 (by decide) ?_
    refine lv_icmp_ne (tgt := 43) hx hb dX8_searchCovers_36 (by decide) (fun c36 => ?_) (fun c36 => ?_)
    · skip
      refine lv_iconst (v := 2) hx hb dX8_searchCovers_43 (by decide) ?_
      refine x_cvi (y := nI 2) (by rfl) ?_
      refine lv_istore_n (lv' := [(3, .int (nI 2)), (0, .ref mo), (1, .int (nI len)), (2, .int (nI n))]) hx hb dX8_searchCovers_44 rfl hl (by decide) rfl (fun ls hl => ?_)
      refine lv_aload_n hx hb dX8_searchCovers_45 rfl (lv_at hl 1 rfl) ?_
      refine xg X hw (C := RX8) (T := TX8) (N := 27) (by decide +kernel) 0 rfl rfl 22 (by decide) rfl (by decide +kernel) rfl dX8_searchCovers_46 ?_
      refine lv_iconst (v := 2) hx hb dX8_searchCovers_49 (by decide) ?_
      refine x_cvi (y := nI 2) (by rfl) ?_
      refine lv_iconst (v := 1) hx hb dX8_searchCovers_50 (by decide) ?_
      refine x_cvi (y := nI 1) (by rfl) ?_
      refine xis X hw 2 rfl (j := 2) (rfl) (by decide) (by decide) dX8_searchCovers_51 (ws' := [(mo, .inr (5, [.ref th, .ref ea, .ref sa, .ref lk, .ref lq, .ref lz, .int lg, .int un, .int tm, .ref rb, .ref rn, .ref rt, .ref rk, .int kr, .ref cb, .ref cm, .ref cu, .ref ck, .int kc, .int se, .int tr, .ref mk, .ref nt, .ref kp, .ref iq, .int ka, .int wr])), (mk, .inl (G.2.1, 12, .inl (upd (upd mf 0 (nI 0)) 1 (nI len)))), (nt, .inl (G.2.1, 12, .inl (upd nf 2 (nI 1)))), (cm, .inl (G.2.1, 21, .inl (upd cmf len (nI nb)))), (cu, .inl (G.2.1, 21, .inl (upd cuf len (nI tr0)))), (ck, .inl (G.2.1, 252, .inl rkv))]) rfl (fun H locs hw => ?_)
      have lp52 : ∀ (fu : Nat) (d0 : Nat) (stk : List (Nat × Nat)) (mf1 : Nat → Int32) (nf1 : Nat → Int32) (rk1 : Nat → Int32) (nb1 : Nat) (tr1 : Nat) (fi1 : Nat) (fl1 : List Nat) (H : Heap) (locs : List Loc) (ls : Array Slot), muT n stk < fu → (d0 = stk.length + 1) → (stk.length < n - 1) → (okC len (msO stk) mf1) → (okT2 nf1 stk) → (srt (msO stk)) → (∀ y ∈ msO stk, y < len) → (atL (msO stk) 0 = 0) → (okRC len (nb1, tr1, fi1, fl1) rk0 rk1) → (coC len n stk (nb1, tr1, fi1, fl1) = cOne len n (nb, tr0, fi, fl)) → WS G A s.heap H locs [(mo, .inr (5, [.ref th, .ref ea, .ref sa, .ref lk, .ref lq, .ref lz, .int lg, .int un, .int tm, .ref rb, .ref rn, .ref rt, .ref rk, .int kr, .ref cb, .ref cm, .ref cu, .ref ck, .int kc, .int se, .int tr, .ref mk, .ref nt, .ref kp, .ref iq, .int ka, .int wr])), (mk, .inl (G.2.1, 12, .inl mf1)), (nt, .inl (G.2.1, 12, .inl nf1)), (cm, .inl (G.2.1, 21, .inl (upd cmf len (nI nb1)))), (cu, .inl (G.2.1, 21, .inl (upd cuf len (nI tr1)))), (ck, .inl (G.2.1, 252, .inl rk1))] → lv_has ls 7 [(0, .ref mo), (1, .int (nI len)), (2, .int (nI n)), (3, .int (nI d0))] → W p l e ({ frames := 1, cells := 0, slots := 0, locals := 27 } : Room) s mt ([.ref mo, .int (nI len), .int (nI n)] : List Value).toArray below meth c H locs 0 0 Q (F0 mt 52 ls []) := by
        intro fu
        induction fu with
        | zero =>
          intro d0 stk mf1 nf1 rk1 nb1 tr1 fi1 fl1 H locs ls hmu
          exact absurd hmu (Nat.not_lt_zero _)
        | succ fu ih52 =>
          intro d0 stk mf1 nf1 rk1 nb1 tr1 fi1 fl1 H locs ls hmu52 hd0 hsl hM hT hS hlt h00 hK hR hw hl
          refine lv_iload_n hx hb dX8_searchCovers_52 rfl (lv_at hl 3 rfl) ?_
          refine lv_iconst (v := 1) hx hb dX8_searchCovers_53 (by decide) ?_
          refine lv_icmp_le (tgt := 171) hx hb dX8_searchCovers_54 (by decide) (fun c54 => ?_) (fun c54 => ?_)
          · have h0 : stk = [] := List.length_eq_zero_iff.mp (by have := i_le (b := 1) (by omega) (by decide) c54; omega)
            subst h0
            refine hret _ _ _ _ _ dX8_searchCovers_171 hw ?_
            have hR2 : (nb1, tr1, fi1, fl1) = cOne len n (nb, tr0, fi, fl) := hR
            rw [← hR2]
            exact ⟨rfl, mf1, nf1, rk1, hK, rfl⟩
          · obtain ⟨⟨last, mark⟩, t, rfl⟩ : ∃ q t, stk = q :: t := by
              cases stk with
              | nil => exact absurd (show nI d0 ≤ 1 by rw [hd0]; decide) c54
              | cons q t => exact ⟨q, t, rfl⟩
            have hd : d0 = t.length + 1 + 1 := hd0
            have hd9 : (last :: msO t).length + 1 = d0 := by rw [hd]; simp [msO]
            have hdn : d0 < n := by have : t.length + 1 < n - 1 := hsl; omega
            obtain ⟨k, hk⟩ : ∃ k, k = n - (d0 + 1) := ⟨_, rfl⟩
            have hkk : n - 2 - (t.length + 1) = k := by omega
            obtain ⟨hT1, hT2, hT3, hT4⟩ := id hT
            have hll : last < len := hlt last List.mem_cons_self
            have hmo := mo_lt (k := k) (sz := n) (by omega) (by omega)
            refine lv_aload_n hx hb dX8_searchCovers_57 rfl (lv_at hl 0 rfl) ?_
            refine xg X hw (C := RX8) (T := TX8) (N := 27) (by decide +kernel) 0 rfl rfl 22 (by decide) rfl (by decide +kernel) rfl dX8_searchCovers_58 ?_
            refine lv_iload_n hx hb dX8_searchCovers_61 rfl (lv_at hl 3 rfl) ?_
            refine xia X hw 2 rfl (j := d0) (rfl) (by omega) (by decide) dX8_searchCovers_62 ?_
            refine x_cvi (y := nI mark) (by rw [hd]; exact hT1) ?_
            refine lv_istore (lv' := [(4, .int (nI mark)), (0, .ref mo), (1, .int (nI len)), (2, .int (nI n)), (3, .int (nI d0))]) hx hb dX8_searchCovers_63 hl (by decide) rfl (fun ls hl => ?_)
            refine lv_iload hx hb dX8_searchCovers_65 (lv_at hl 0 rfl) ?_
            refine lv_iload_n hx hb dX8_searchCovers_67 rfl (lv_at hl 2 rfl) ?_
            refine lv_icmp_lt (tgt := 77) hx hb dX8_searchCovers_68 (by decide) (fun c68 => ?_) (fun c68 => ?_)
            · have hle : mark < len := i_lt (by omega) (by omega) c68
              have hmm : ∀ y ∈ last :: msO t, y < mark := fun y hy => by
                rcases List.mem_cons.mp hy with hy2 | hy2
                · omega
                · have := hS.1 y hy2; omega
              have hl2 : ∀ y ∈ mark :: last :: msO t, y < len := fun y hy => by
                rcases List.mem_cons.mp hy with hy2 | hy2
                · omega
                · exact hlt y hy2
              have h002 : atL (mark :: last :: msO t) 0 = 0 := at0_c h00 (fun z => (by cases z))
              have hd10 : (mark :: last :: msO t).length + 1 = d0 + 1 := by rw [hd]; simp [msO]
              have hM2 : okC len (mark :: last :: msO t) (upd mf1 d0 (nI mark)) := by rw [← hd9]; exact okC_c hM (by simp [msO])
              refine lv_aload_n hx hb dX8_searchCovers_77 rfl (lv_at hl 1 rfl) ?_
              refine xg X hw (C := RX8) (T := TX8) (N := 27) (by decide +kernel) 0 rfl rfl 22 (by decide) rfl (by decide +kernel) rfl dX8_searchCovers_78 ?_
              refine lv_iload_n hx hb dX8_searchCovers_81 rfl (lv_at hl 4 rfl) ?_
              refine lv_iload hx hb dX8_searchCovers_82 (lv_at hl 0 rfl) ?_
              refine lv_iconst (v := 1) hx hb dX8_searchCovers_84 (by decide) ?_
              refine lv_iadd hx hb dX8_searchCovers_85 ?_
              refine x_cvi (y := nI (mark + 1)) (by exact nI_1 _) ?_
              refine xis X hw 2 rfl (j := d0) (rfl) (by omega) (by decide) dX8_searchCovers_86 (ws' := [(mo, .inr (5, [.ref th, .ref ea, .ref sa, .ref lk, .ref lq, .ref lz, .int lg, .int un, .int tm, .ref rb, .ref rn, .ref rt, .ref rk, .int kr, .ref cb, .ref cm, .ref cu, .ref ck, .int kc, .int se, .int tr, .ref mk, .ref nt, .ref kp, .ref iq, .int ka, .int wr])), (mk, .inl (G.2.1, 12, .inl mf1)), (nt, .inl (G.2.1, 12, .inl (upd nf1 d0 (nI (mark + 1))))), (cm, .inl (G.2.1, 21, .inl (upd cmf len (nI nb1)))), (cu, .inl (G.2.1, 21, .inl (upd cuf len (nI tr1)))), (ck, .inl (G.2.1, 252, .inl rk1))]) rfl (fun H locs hw => ?_)
              refine lv_aload_n hx hb dX8_searchCovers_87 rfl (lv_at hl 1 rfl) ?_
              refine xg X hw (C := RX8) (T := TX8) (N := 27) (by decide +kernel) 0 rfl rfl 16 (by decide) rfl (by decide +kernel) rfl dX8_searchCovers_88 ?_
              refine lv_iload_n hx hb dX8_searchCovers_91 rfl (lv_at hl 2 rfl) ?_
              refine lv_dup2_11 hx hb dX8_searchCovers_92 rfl rfl ?_
              refine xia X hw 4 rfl (j := len) (rfl) (by omega) (by decide) dX8_searchCovers_93 ?_
              refine x_cvi (y := nI tr1) (by exact upd_at _ _ _) ?_
              refine lv_iconst (v := 1) hx hb dX8_searchCovers_94 (by decide) ?_
              refine lv_iadd hx hb dX8_searchCovers_95 ?_
              refine x_cvi (y := nI (tr1 + 1)) (by exact nI_1 _) ?_
              refine xis X hw 4 rfl (j := len) (rfl) (by omega) (by decide) dX8_searchCovers_96 (ws' := [(mo, .inr (5, [.ref th, .ref ea, .ref sa, .ref lk, .ref lq, .ref lz, .int lg, .int un, .int tm, .ref rb, .ref rn, .ref rt, .ref rk, .int kr, .ref cb, .ref cm, .ref cu, .ref ck, .int kc, .int se, .int tr, .ref mk, .ref nt, .ref kp, .ref iq, .int ka, .int wr])), (mk, .inl (G.2.1, 12, .inl mf1)), (nt, .inl (G.2.1, 12, .inl (upd nf1 d0 (nI (mark + 1))))), (cm, .inl (G.2.1, 21, .inl (upd cmf len (nI nb1)))), (cu, .inl (G.2.1, 21, .inl (upd (upd cuf len (nI tr1)) len (nI (tr1 + 1))))), (ck, .inl (G.2.1, 252, .inl rk1))]) rfl (fun H locs hw => ?_)
              rw [fa_upd_twice] at hw
              refine lv_aload_n hx hb dX8_searchCovers_97 rfl (lv_at hl 1 rfl) ?_
              refine xg X hw (C := RX8) (T := TX8) (N := 27) (by decide +kernel) 0 rfl rfl 21 (by decide) rfl (by decide +kernel) rfl dX8_searchCovers_98 ?_
              refine lv_iload_n hx hb dX8_searchCovers_101 rfl (lv_at hl 4 rfl) ?_
              refine lv_iload hx hb dX8_searchCovers_102 (lv_at hl 0 rfl) ?_
              refine xis X hw 1 rfl (j := d0) (rfl) (by omega) (by decide) dX8_searchCovers_104 (ws' := [(mo, .inr (5, [.ref th, .ref ea, .ref sa, .ref lk, .ref lq, .ref lz, .int lg, .int un, .int tm, .ref rb, .ref rn, .ref rt, .ref rk, .int kr, .ref cb, .ref cm, .ref cu, .ref ck, .int kc, .int se, .int tr, .ref mk, .ref nt, .ref kp, .ref iq, .int ka, .int wr])), (mk, .inl (G.2.1, 12, .inl (upd mf1 d0 (nI mark)))), (nt, .inl (G.2.1, 12, .inl (upd nf1 d0 (nI (mark + 1))))), (cm, .inl (G.2.1, 21, .inl (upd cmf len (nI nb1)))), (cu, .inl (G.2.1, 21, .inl (upd cuf len (nI (tr1 + 1))))), (ck, .inl (G.2.1, 252, .inl rk1))]) rfl (fun H locs hw => ?_)
              refine lv_iload_n hx hb dX8_searchCovers_105 rfl (lv_at hl 4 rfl) ?_
              refine lv_iconst (v := 1) hx hb dX8_searchCovers_106 (by decide) ?_
              refine lv_iadd hx hb dX8_searchCovers_107 ?_
              refine x_cvi (y := nI (d0 + 1)) (by exact nI_1 _) ?_
              refine lv_istore (lv' := [(5, .int (nI (d0 + 1))), (4, .int (nI mark)), (0, .ref mo), (1, .int (nI len)), (2, .int (nI n)), (3, .int (nI d0))]) hx hb dX8_searchCovers_108 hl (by decide) rfl (fun ls hl => ?_)
              refine lv_iload_n hx hb dX8_searchCovers_110 rfl (lv_at hl 4 rfl) ?_
              refine lv_iload hx hb dX8_searchCovers_111 (lv_at hl 0 rfl) ?_
              refine lv_isub hx hb dX8_searchCovers_113 ?_
              refine x_cvi (y := nI k) (by rw [hk]; exact pk_sub (by omega)) ?_
              refine lv_istore (lv' := [(6, .int (nI k)), (5, .int (nI (d0 + 1))), (4, .int (nI mark)), (0, .ref mo), (1, .int (nI len)), (2, .int (nI n)), (3, .int (nI d0))]) hx hb dX8_searchCovers_114 hl (by decide) rfl (fun ls hl => ?_)
              refine lv_aload_n hx hb dX8_searchCovers_116 rfl (lv_at hl 3 rfl) ?_
              refine lv_iload_n hx hb dX8_searchCovers_117 rfl (lv_at hl 4 rfl) ?_
              refine lv_iload hx hb dX8_searchCovers_118 (lv_at hl 1 rfl) ?_
              refine xcV (n := 2) (As := [.int (nI len), .int (nI (d0 + 1))]) (rest := []) (wc := [(mo, .inr (5, [.ref th, .ref ea, .ref sa, .ref lk, .ref lq, .ref lz, .int lg, .int un, .int tm, .ref rb, .ref rn, .ref rt, .ref rk, .int kr, .ref cb, .ref cm, .ref cu, .ref ck, .int kc, .int se, .int tr, .ref mk, .ref nt, .ref kp, .ref iq, .int ka, .int wr])), (mk, .inl (G.2.1, 12, .inl (upd mf1 d0 (nI mark))))]) (wr := [(nt, .inl (G.2.1, 12, .inl (upd nf1 d0 (nI (mark + 1))))), (cm, .inl (G.2.1, 21, .inl (upd cmf len (nI nb1)))), (cu, .inl (G.2.1, 21, .inl (upd cuf len (nI (tr1 + 1))))), (ck, .inl (G.2.1, 252, .inl rk1))]) X hw (c_X8_lacking l G mo th ea sa lk lq lz rb rn rt rk cb cm cu ck mk nt kp iq lg un tm kr kc se tr ka wr (upd mf1 d0 (nI mark)) (cfL len (mark :: last :: msO t)) (d0 + 1) len (by rw [← hd10]; exact hM2) (by rw [← hd10]; exact cf_le hl2 (by omega)) (by omega) hlen) (C := RX8) gX8_searchCovers_X8_lacking (q0 := 0) rfl rfl rfl ⟨rfl, rfl⟩ (by decide +kernel) ⟨by decide, by decide⟩ rfl hl.1 rfl (Nat.le_of_ble_eq_true rfl) dX8_searchCovers_120 ⟨by decide, by decide⟩ [0, 1] [2, 3, 4, 5] rfl rfl rfl rfl (by decide) (fun r w1 H locs hp hw => ?_)
              obtain ⟨rfl, rfl⟩ := hp
              have hw := hw.sub (ws' := [(mo, .inr (5, [.ref th, .ref ea, .ref sa, .ref lk, .ref lq, .ref lz, .int lg, .int un, .int tm, .ref rb, .ref rn, .ref rt, .ref rk, .int kr, .ref cb, .ref cm, .ref cu, .ref ck, .int kc, .int se, .int tr, .ref mk, .ref nt, .ref kp, .ref iq, .int ka, .int wr])), (mk, .inl (G.2.1, 12, .inl (upd mf1 d0 (nI mark)))), (nt, .inl (G.2.1, 12, .inl (upd nf1 d0 (nI (mark + 1))))), (cm, .inl (G.2.1, 21, .inl (upd cmf len (nI nb1)))), (cu, .inl (G.2.1, 21, .inl (upd cuf len (nI (tr1 + 1))))), (ck, .inl (G.2.1, 252, .inl rk1))]) [4, 5, 0, 1, 2, 3] rfl rfl
              refine W.eq (g2 := F0 mt 123 ls [.int (nI (fb_ct (lkA (cfL len (mark :: last :: msO t)) (d0 + 1)) len))]) rfl ?_
              refine x_cvi (y := nI (len - pcQ (lcL len (mark :: last :: msO t)))) (by rw [← hd10]; exact congrArg nI (lk_eq ⟨hmm, hS⟩ hl2 h002 (by simp) (by omega))) ?_
              refine lv_iload hx hb dX8_searchCovers_123 (lv_at hl 0 rfl) ?_
              refine lv_iload hx hb dX8_searchCovers_125 (lv_at hl 1 rfl) ?_
              refine lv_imul hx hb dX8_searchCovers_127 ?_
              refine x_cvi (y := nI (k * (n - k))) (by rw [show d0 + 1 = n - k by omega]; exact pk_mul _ _) ?_
              refine lv_iload hx hb dX8_searchCovers_128 (lv_at hl 0 rfl) ?_
              refine lv_iload hx hb dX8_searchCovers_130 (lv_at hl 0 rfl) ?_
              refine lv_iconst (v := 1) hx hb dX8_searchCovers_132 (by decide) ?_
              refine lv_isub hx hb dX8_searchCovers_133 ?_
              refine lv_imul hx hb dX8_searchCovers_134 ?_
              refine x_cvi (y := nI (k * (k - 1))) (by exact kk1 k) ?_
              refine lv_iconst (v := 2) hx hb dX8_searchCovers_135 (by decide) ?_
              refine lv_idiv hx hb dX8_searchCovers_136 (by decide) ?_
              refine x_cvi (y := nI (k * (k - 1) / 2)) (by exact pk_div (d := 2) hmo.2 (by decide) (by decide)) ?_
              refine lv_iadd hx hb dX8_searchCovers_137 ?_
              refine x_cvi (y := nI (k * (n - k) + k * (k - 1) / 2)) (by exact nI_add _ _) ?_
              refine lv_icmp_gt (tgt := 168) hx hb dX8_searchCovers_138 (by decide) (fun c138 => ?_) (fun c138 => ?_)
              · have hz : ¬ len - pcQ (lcL len (mark :: last :: msO t)) ≤ k * (n - k) + k * (k - 1) / 2 := fun q => absurd (i_lt (by omega) (by omega) c138) (by omega)
                refine lv_goto (tgt := 52) hx hb dX8_searchCovers_168 (by decide) ?_
                exact ih52 d0 ((last, mark + 1) :: t) (upd mf1 d0 (nI mark)) (upd nf1 d0 (nI (mark + 1))) rk1 nb1 (tr1 + 1) _ _ _ _ _ (by have := mu_lt (n := n) (x := last) (x' := last) (t := t) (y := mark) (y' := mark + 1) (by omega) (by omega); omega) (by rw [hd]; rfl) (by simp only [List.length_cons]; omega) (okC_up hM (Nat.le_of_eq hd9)) (okT2_n hT hd (by omega) (by omega)) (hS) (hlt) (h00) (okRC_try hK) (by rw [coC_no hkk hle hz] at hR; exact hR) hw (lv_sub hl [3, 4, 5, 6] rfl)
              · have hz : len - pcQ (lcL len (mark :: last :: msO t)) ≤ k * (n - k) + k * (k - 1) / 2 := i_nlt (by omega) (by omega) c138
                refine lv_iload hx hb dX8_searchCovers_141 (lv_at hl 0 rfl) ?_
                refine lv_if_ne (tgt := 155) hx hb dX8_searchCovers_143 (by decide) (fun c143 => ?_) (fun c143 => ?_)
                · have hk0 : k ≠ 0 := fun z => c143 (by rw [z]; rfl)
                  refine lv_iinc (v := nI (d0 + 1)) (lv' := [(3, .int (nI (d0 + 1))), (6, .int (nI k)), (5, .int (nI (d0 + 1))), (4, .int (nI mark)), (0, .ref mo), (1, .int (nI len)), (2, .int (nI n))]) hx hb dX8_searchCovers_155 hl (k := 6) rfl (by exact nI_1 _) (by decide) rfl (fun ls hl => ?_)
                  refine lv_aload_n hx hb dX8_searchCovers_158 rfl (lv_at hl 4 rfl) ?_
                  refine xg X hw (C := RX8) (T := TX8) (N := 27) (by decide +kernel) 0 rfl rfl 22 (by decide) rfl (by decide +kernel) rfl dX8_searchCovers_159 ?_
                  refine lv_iload_n hx hb dX8_searchCovers_162 rfl (lv_at hl 0 rfl) ?_
                  refine lv_iload hx hb dX8_searchCovers_163 (lv_at hl 3 rfl) ?_
                  refine lv_iconst (v := 1) hx hb dX8_searchCovers_165 (by decide) ?_
                  refine lv_iadd hx hb dX8_searchCovers_166 ?_
                  refine x_cvi (y := nI (mark + 1)) (by exact nI_1 _) ?_
                  refine xis X hw 2 rfl (j := (d0 + 1)) (rfl) (by omega) (by decide) dX8_searchCovers_167 (ws' := [(mo, .inr (5, [.ref th, .ref ea, .ref sa, .ref lk, .ref lq, .ref lz, .int lg, .int un, .int tm, .ref rb, .ref rn, .ref rt, .ref rk, .int kr, .ref cb, .ref cm, .ref cu, .ref ck, .int kc, .int se, .int tr, .ref mk, .ref nt, .ref kp, .ref iq, .int ka, .int wr])), (mk, .inl (G.2.1, 12, .inl (upd mf1 d0 (nI mark)))), (nt, .inl (G.2.1, 12, .inl (upd (upd nf1 d0 (nI (mark + 1))) (d0 + 1) (nI (mark + 1))))), (cm, .inl (G.2.1, 21, .inl (upd cmf len (nI nb1)))), (cu, .inl (G.2.1, 21, .inl (upd cuf len (nI (tr1 + 1))))), (ck, .inl (G.2.1, 252, .inl rk1))]) rfl (fun H locs hw => ?_)
                  refine lv_goto (tgt := 52) hx hb dX8_searchCovers_168 (by decide) ?_
                  exact ih52 (d0 + 1) ((mark, mark + 1) :: (last, mark + 1) :: t) (upd mf1 d0 (nI mark)) (upd (upd nf1 d0 (nI (mark + 1))) (d0 + 1) (nI (mark + 1))) rk1 nb1 (tr1 + 1) _ _ _ _ _ (by have := mu_push (n := n) (x := last) (x' := last) (t := t) (z := mark) (w := mark + 1) (y := mark) (y' := mark + 1) (by omega) (by omega) (by omega); omega) (by rw [hd]; rfl) (by simp only [List.length_cons]; omega) (hM2) (okT2_p (okT2_n hT hd (by omega) (by omega)) (by rw [hd]; rfl) (by omega) (by omega)) (⟨hmm, hS⟩) (hl2) (h002) (okRC_try hK) (by rw [coC_go hkk hle hk0 hz] at hR; exact hR) hw (lv_sub hl [4, 5, 6, 0] rfl)
                · have hk0 : k = 0 := i_eq (b := 0) (by omega) (by decide) c143
                  refine lv_aload_n hx hb dX8_searchCovers_146 rfl (lv_at hl 3 rfl) ?_
                  refine lv_iload_n hx hb dX8_searchCovers_147 rfl (lv_at hl 4 rfl) ?_
                  refine lv_iload_n hx hb dX8_searchCovers_148 rfl (lv_at hl 5 rfl) ?_
                  refine xcV (n := 2) (As := [.int (nI len), .int (nI n)]) (rest := []) (wc := [(mo, .inr (5, [.ref th, .ref ea, .ref sa, .ref lk, .ref lq, .ref lz, .int lg, .int un, .int tm, .ref rb, .ref rn, .ref rt, .ref rk, .int kr, .ref cb, .ref cm, .ref cu, .ref ck, .int kc, .int se, .int tr, .ref mk, .ref nt, .ref kp, .ref iq, .int ka, .int wr])), (mk, .inl (G.2.1, 12, .inl (upd mf1 d0 (nI mark)))), (cm, .inl (G.2.1, 21, .inl (upd cmf len (nI nb1)))), (ck, .inl (G.2.1, 252, .inl rk1))]) (wr := [(nt, .inl (G.2.1, 12, .inl (upd nf1 d0 (nI (mark + 1))))), (cu, .inl (G.2.1, 21, .inl (upd cuf len (nI (tr1 + 1)))))]) X hw (c_X8_noteCover l G mo th ea sa lk lq lz rb rn rt rk cb cm cu ck mk nt kp iq lg un tm kr kc se tr ka wr (upd mf1 d0 (nI mark)) cmf rk1 nb1 len n hlen (by omega) hn) (C := RX8) gX8_searchCovers_X8_noteCover (q0 := 0) rfl rfl rfl ⟨rfl, rfl⟩ (by decide +kernel) ⟨by decide, by decide⟩ rfl hl.1 rfl (Nat.le_of_ble_eq_true rfl) dX8_searchCovers_149 ⟨by decide, by decide⟩ [0, 1, 3, 5] [2, 4] rfl rfl rfl rfl (by decide) (fun r w1 H locs hp hw => ?_)
                  obtain ⟨rfl, rfl⟩ := hp
                  have hw := hw.sub (ws' := [(mo, .inr (5, [.ref th, .ref ea, .ref sa, .ref lk, .ref lq, .ref lz, .int lg, .int un, .int tm, .ref rb, .ref rn, .ref rt, .ref rk, .int kr, .ref cb, .ref cm, .ref cu, .ref ck, .int kc, .int se, .int tr, .ref mk, .ref nt, .ref kp, .ref iq, .int ka, .int wr])), (mk, .inl (G.2.1, 12, .inl (upd mf1 d0 (nI mark)))), (nt, .inl (G.2.1, 12, .inl (upd nf1 d0 (nI (mark + 1))))), (cm, .inl (G.2.1, 21, .inl (upd cmf len (nI (nb1 + 1))))), (cu, .inl (G.2.1, 21, .inl (upd cuf len (nI (tr1 + 1))))), (ck, .inl (G.2.1, 252, .inl (if nI nb1 = 0 then cpy (cvf len n (upd mf1 d0 (nI mark))) rk1 (12 * len) n else rk1)))]) [2, 3, 0, 4, 1, 5] rfl rfl
                  refine W.eq (g2 := F0 mt 152 ls []) rfl ?_
                  refine lv_goto (tgt := 168) hx hb dX8_searchCovers_152 (by decide) ?_
                  refine lv_goto (tgt := 52) hx hb dX8_searchCovers_168 (by decide) ?_
                  exact ih52 d0 ((last, mark + 1) :: t) (upd mf1 d0 (nI mark)) (upd nf1 d0 (nI (mark + 1))) (if nI nb1 = 0 then cpy (cvf len n (upd mf1 d0 (nI mark))) rk1 (12 * len) n else rk1) (nb1 + 1) (tr1 + 1) (if nI nb1 = 0 then mcL len (last :: msO t) ||| 2 ^ mark else fi1) (if nI nb1 = 0 then mark :: last :: msO t else fl1) _ _ _ (by have := mu_lt (n := n) (x := last) (x' := last) (t := t) (y := mark) (y' := mark + 1) (by omega) (by omega); omega) (by rw [hd]; rfl) (by simp only [List.length_cons]; omega) (okC_up hM (Nat.le_of_eq hd9)) (okT2_n hT hd (by omega) (by omega)) (hS) (hlt) (h00) (okRC_add (x := mcL len (last :: msO t) ||| 2 ^ mark) (okRC_try hK) (by omega) (by omega) (by simp only [List.length_cons] at hd9 ⊢; omega) h002 hM2) (by rw [coC_end hkk hle hk0 hz] at hR; exact hR) hw (lv_sub hl [3, 4, 5, 6] rfl)
            · have hle : len ≤ mark := i_nlt (by omega) (by omega) c68
              refine lv_iinc (v := nI (t.length + 1)) (lv' := [(3, .int (nI (t.length + 1))), (4, .int (nI mark)), (0, .ref mo), (1, .int (nI len)), (2, .int (nI n))]) hx hb dX8_searchCovers_71 hl (k := 4) rfl (by exact (nI_dec (by omega)).trans (by rw [hd]; rfl)) (by decide) rfl (fun ls hl => ?_)
              refine lv_goto (tgt := 168) hx hb dX8_searchCovers_74 (by decide) ?_
              refine lv_goto (tgt := 52) hx hb dX8_searchCovers_168 (by decide) ?_
              exact ih52 (t.length + 1) t mf1 nf1 rk1 nb1 tr1 _ _ _ _ _ (by have := mu_pop (n := n) (x := last) (y := mark) (t := t) (by omega); omega) (rfl) (by have : t.length + 1 < n - 1 := hsl; omega) (okC_t hM) (hT4) (hS.2) (fun y h => hlt y (List.mem_cons_of_mem _ h)) (at0_t h00) (hK) (by rw [coC_pop hle] at hR; exact hR) hw (lv_sub hl [2, 3, 4, 0] rfl)
      exact lp52 _ 2 ([(0, 1)]) (upd (upd mf 0 (nI 0)) 1 (nI len)) (upd nf 2 (nI 1)) rkv nb tr0 fi fl _ _ _ (Nat.lt_succ_self _) (rfl) (by simp only [List.length_cons, List.length_nil]; omega) (okC_0 mf) (okT2_p (st := []) (x := 0) (d := 2) trivial rfl (by decide) (by decide)) (srt_0) (fun y h => by rcases List.mem_cons.mp h with q | q; (· omega); cases q) (rfl) (hK0) (cOne_3 hn2 _) hw (lv_sub hl [1, 2, 3, 0] rfl)
    · exact absurd (i_eq (b := 2) (by omega) (by decide) c36) (by omega)
  · exact absurd (i_eq (b := 2) (by omega) (by decide) c16) (by omega)

theorem c_X8_searchCovers (l : Launch) (G : GG) (mo : Nat) (th : Nat) (ea : Nat) (sa : Nat) (lk : Nat) (lq : Nat) (lz : Nat) (rb : Nat) (rn : Nat) (rt : Nat) (rk : Nat) (cb : Nat) (cm : Nat) (cu : Nat) (ck : Nat) (mk : Nat) (nt : Nat) (kp : Nat) (iq : Nat) (lg : Int32) (un : Int32) (tm : Int32) (kr : Int32) (kc : Int32) (se : Int32) (tr : Int32) (ka : Int32) (wr : Int32) (mf : Nat → Int32) (nf : Nat → Int32) (cmf : Nat → Int32) (cuf : Nat → Int32) (rk0 : Nat → Int32) (rkv : Nat → Int32) (nb : Nat) (tr0 : Nat) (fi : Nat) (fl : List Nat) (len : Nat) (n : Nat) (hl1 : 1 ≤ len) (hlen : len ≤ 20) (hn2 : 2 ≤ n) (hn : n ≤ 12) (hK0 : okRC len (nb, tr0, fi, fl) rk0 rkv) : CT l G yX8_searchCovers wsX8_searchCovers ({ frames := 1, cells := 0, slots := 0, locals := 27 } : Room) [.ref mo, .int (nI len), .int (nI n)] [(mo, .inr (5, [.ref th, .ref ea, .ref sa, .ref lk, .ref lq, .ref lz, .int lg, .int un, .int tm, .ref rb, .ref rn, .ref rt, .ref rk, .int kr, .ref cb, .ref cm, .ref cu, .ref ck, .int kc, .int se, .int tr, .ref mk, .ref nt, .ref kp, .ref iq, .int ka, .int wr])), (mk, .inl (G.2.1, 12, .inl mf)), (nt, .inl (G.2.1, 12, .inl nf)), (cm, .inl (G.2.1, 21, .inl (upd cmf len (nI nb)))), (cu, .inl (G.2.1, 21, .inl (upd cuf len (nI tr0)))), (ck, .inl (G.2.1, 252, .inl rkv))] (fun r w => r = none ∧ ∃ (mf2 nf2 rk2 : Nat → Int32), okRC len (cOne len n (nb, tr0, fi, fl)) rk0 rk2 ∧ w = [(mo, .inr (5, [.ref th, .ref ea, .ref sa, .ref lk, .ref lq, .ref lz, .int lg, .int un, .int tm, .ref rb, .ref rn, .ref rt, .ref rk, .int kr, .ref cb, .ref cm, .ref cu, .ref ck, .int kc, .int se, .int tr, .ref mk, .ref nt, .ref kp, .ref iq, .int ka, .int wr])), (mk, .inl (G.2.1, 12, .inl mf2)), (nt, .inl (G.2.1, 12, .inl nf2)), (cm, .inl (G.2.1, 21, .inl (upd cmf len (nI (cOne len n (nb, tr0, fi, fl)).1)))), (cu, .inl (G.2.1, 21, .inl (upd cuf len (nI (cOne len n (nb, tr0, fi, fl)).2.1)))), (ck, .inl (G.2.1, 252, .inl rk2))]) 0 0 := by
  rcases Nat.lt_or_ge 2 n with h | h
  · exact c_X8_searchCovers3 l G mo th ea sa lk lq lz rb rn rt rk cb cm cu ck mk nt kp iq lg un tm kr kc se tr ka wr mf nf cmf cuf rk0 rkv nb tr0 fi fl len n hl1 hlen h hn hK0
  · obtain rfl : n = 2 := by omega
    exact c_X8_searchCovers2 l G mo th ea sa lk lq lz rb rn rt rk cb cm cu ck mk nt kp iq lg un tm kr kc se tr ka wr mf nf cmf cuf rk0 rkv nb tr0 fi fl len hl1 hlen hK0
