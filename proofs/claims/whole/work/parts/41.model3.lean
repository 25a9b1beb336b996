set_option maxHeartbeats 4000000 in
set_option maxRecDepth 100000 in
theorem c_X8_error (l : Launch) (G : GG) (mo : Nat) (th : Nat) (ea : Nat) (sa : Nat) (lk : Nat) (lq : Nat) (lz : Nat) (rb : Nat) (rn : Nat) (rt : Nat) (rk : Nat) (cb : Nat) (cm : Nat) (cu : Nat) (ck : Nat) (mk : Nat) (nt : Nat) (kp : Nat) (iq : Nat) (un : Int32) (tm : Int32) (kr : Int32) (kc : Int32) (se : Int32) (tr : Int32) (ka : Int32) (wr : Int32) (cn : Nat) (m : Nat) (em : Nat → Int32) (f1 : Nat → Int32) (f2 : Nat → Int32) (f3 : Nat → Int32) (x : Int32) (v : Int32) (hc : cn ≤ 16) : CT l G yX8_error wsX8_error ({ frames := 2, cells := 0, slots := 0, locals := 46 } : Room) [.ref mo, .int x, .int v] [(mo, .inr (5, [.ref th, .ref ea, .ref sa, .ref lk, .ref lq, .ref lz, .int (nI cn), .int un, .int tm, .ref rb, .ref rn, .ref rt, .ref rk, .int kr, .ref cb, .ref cm, .ref cu, .ref ck, .int kc, .int se, .int tr, .ref mk, .ref nt, .ref kp, .ref iq, .int ka, .int wr])), (th, .inl (G.2.1, 61, .inl (tB m))), (ea, .inl (G.2.1, 61, .inl em)), (lk, .inl (G.2.1, 16, .inl f1)), (lq, .inl (G.2.1, 16, .inl f2)), (lz, .inl (G.2.1, 16, .inl f3))] (fun r w => r = some (.int (errR m em x v)) ∧ ((errOk m x v = false ∧ w = [(mo, .inr (5, [.ref th, .ref ea, .ref sa, .ref lk, .ref lq, .ref lz, .int (nI cn), .int un, .int tm, .ref rb, .ref rn, .ref rt, .ref rk, .int kr, .ref cb, .ref cm, .ref cu, .ref ck, .int kc, .int se, .int tr, .ref mk, .ref nt, .ref kp, .ref iq, .int ka, .int wr])), (th, .inl (G.2.1, 61, .inl (tB m))), (ea, .inl (G.2.1, 61, .inl em)), (lk, .inl (G.2.1, 16, .inl f1)), (lq, .inl (G.2.1, 16, .inl f2)), (lz, .inl (G.2.1, 16, .inl f3))]) ∨ (errOk m x v = true ∧ w = [(mo, .inr (5, [.ref th, .ref ea, .ref sa, .ref lk, .ref lq, .ref lz, .int (nI (lgc cn)), .int un, .int (tm + 1), .ref rb, .ref rn, .ref rt, .ref rk, .int kr, .ref cb, .ref cm, .ref cu, .ref ck, .int kc, .int se, .int tr, .ref mk, .ref nt, .ref kp, .ref iq, .int ka, .int wr])), (th, .inl (G.2.1, 61, .inl (tB m))), (ea, .inl (G.2.1, 61, .inl (upd em x.toNatClampNeg v))), (lk, .inl (G.2.1, 16, .inl (lgA cn f1 2))), (lq, .inl (G.2.1, 16, .inl (lgA cn f2 (nI x.toNatClampNeg)))), (lz, .inl (G.2.1, 16, .inl (lgA cn f3 (em x.toNatClampNeg))))]))) 0 0 := by
  refine ct_i (cc := cX8_error) (maxL := 4) (by decide +kernel) rfl (Nat.le_of_ble_eq_true rfl) ?_
  intro p e s mt below meth c A Q X hw hret ls hl
  obtain ⟨hx, hb, -⟩ := id X
  have hl : lv_has ls 4 [(0, .ref mo), (1, .int x), (2, .int v)] := hl
  refine lv_aload_n hx hb dX8_error_0 rfl (lv_at hl 0 rfl) ?_
  refine lv_iload_n hx hb dX8_error_1 rfl (lv_at hl 1 rfl) ?_
  refine xcV (n := 1) (As := [.int x]) (rest := []) (wc := [(mo, .inr (5, [.ref th, .ref ea, .ref sa, .ref lk, .ref lq, .ref lz, .int (nI cn), .int un, .int tm, .ref rb, .ref rn, .ref rt, .ref rk, .int kr, .ref cb, .ref cm, .ref cu, .ref ck, .int kc, .int se, .int tr, .ref mk, .ref nt, .ref kp, .ref iq, .int ka, .int wr])), (th, .inl (G.2.1, 61, .inl (tB m)))]) (wr := [(ea, .inl (G.2.1, 61, .inl em)), (lk, .inl (G.2.1, 16, .inl f1)), (lq, .inl (G.2.1, 16, .inl f2)), (lz, .inl (G.2.1, 16, .inl f3))]) X hw (c_X8_isDish l G mo th ea sa lk lq lz rb rn rt rk cb cm cu ck mk nt kp iq (nI cn) un tm kr kc se tr ka wr m x ) (C := RX8) gX8_error_X8_isDish (q0 := 0) rfl rfl rfl ⟨rfl, rfl⟩ (by decide +kernel) ⟨by decide, by decide⟩ rfl hl.1 rfl (Nat.le_of_ble_eq_true rfl) dX8_error_2 ⟨by decide, by decide⟩ [0, 1] [2, 3, 4, 5] rfl rfl rfl rfl (by decide) (fun r w1 H locs hp hw => ?_)
  obtain ⟨rfl, rfl⟩ := hp
  have hw := hw.sub (ws' := [(mo, .inr (5, [.ref th, .ref ea, .ref sa, .ref lk, .ref lq, .ref lz, .int (nI cn), .int un, .int tm, .ref rb, .ref rn, .ref rt, .ref rk, .int kr, .ref cb, .ref cm, .ref cu, .ref ck, .int kc, .int se, .int tr, .ref mk, .ref nt, .ref kp, .ref iq, .int ka, .int wr])), (th, .inl (G.2.1, 61, .inl (tB m))), (ea, .inl (G.2.1, 61, .inl em)), (lk, .inl (G.2.1, 16, .inl f1)), (lq, .inl (G.2.1, 16, .inl f2)), (lz, .inl (G.2.1, 16, .inl f3))]) [4, 5, 0, 1, 2, 3] rfl rfl
  refine W.eq (g2 := F0 mt 5 ls [.int (bi (stn m x))]) rfl ?_
  refine lv_if_ne (tgt := 10) hx hb dX8_error_5 (by decide) (fun c5 => ?_) (fun c5 => ?_)
  · have hs := bi_t c5
    obtain ⟨k, hk, rfl, hbk⟩ := stn_in hs
    have hck := cl_k hk
    refine lv_iload_n hx hb dX8_error_10 rfl (lv_at hl 2 rfl) ?_
    refine xcP (n := 1) (As := [.int v]) (rest := []) X hw (c_X8_isPhase l G v ) gX8_error_X8_isPhase rfl ⟨rfl, rfl⟩ (by decide +kernel) ⟨by decide, by decide⟩ rfl hl.1 rfl (Nat.le_of_ble_eq_true rfl) dX8_error_11 ⟨by decide, by decide⟩ (fun r w1 H locs hp hw => ?_)
    obtain rfl := hp
    refine W.eq (g2 := F0 mt 14 ls [.int (bi (inP v))]) rfl ?_
    refine lv_if_ne (tgt := 20) hx hb dX8_error_14 (by decide) (fun c14 => ?_) (fun c14 => ?_)
    · have hp := bi_t c14
      refine lv_aload_n hx hb dX8_error_20 rfl (lv_at hl 0 rfl) ?_
      refine xg X hw (C := RX8) (T := TX8) (N := 27) (by decide +kernel) 0 rfl rfl 1 (by decide) rfl (by decide +kernel) rfl dX8_error_21 ?_
      refine lv_iload_n hx hb dX8_error_24 rfl (lv_at hl 1 rfl) ?_
      refine xia X hw 2 rfl (j := k) (rfl) (by omega) (by decide) dX8_error_25 ?_
      refine lv_istore_n (lv' := [(3, .int (em k)), (0, .ref mo), (1, .int (nI k)), (2, .int v)]) hx hb dX8_error_26 rfl hl (by decide) rfl (fun ls hl => ?_)
      refine lv_aload_n hx hb dX8_error_27 rfl (lv_at hl 1 rfl) ?_
      refine lv_iconst (v := 2) hx hb dX8_error_28 (by decide) ?_
      refine lv_iload_n hx hb dX8_error_29 rfl (lv_at hl 2 rfl) ?_
      refine lv_iload_n hx hb dX8_error_30 rfl (lv_at hl 0 rfl) ?_
      refine xcV (n := 3) (As := [.int 2, .int (nI k), .int (em k)]) (rest := []) (wc := [(mo, .inr (5, [.ref th, .ref ea, .ref sa, .ref lk, .ref lq, .ref lz, .int (nI cn), .int un, .int tm, .ref rb, .ref rn, .ref rt, .ref rk, .int kr, .ref cb, .ref cm, .ref cu, .ref ck, .int kc, .int se, .int tr, .ref mk, .ref nt, .ref kp, .ref iq, .int ka, .int wr])), (lk, .inl (G.2.1, 16, .inl f1)), (lq, .inl (G.2.1, 16, .inl f2)), (lz, .inl (G.2.1, 16, .inl f3))]) (wr := [(th, .inl (G.2.1, 61, .inl (tB m))), (ea, .inl (G.2.1, 61, .inl em))]) X hw (c_X8_log l G mo th ea sa lk lq lz rb rn rt rk cb cm cu ck mk nt kp iq un tm kr kc se tr ka wr cn f1 f2 f3 2 (nI k) (em k) hc) (C := RX8) gX8_error_X8_log (q0 := 0) rfl rfl rfl ⟨rfl, rfl⟩ (by decide +kernel) ⟨by decide, by decide⟩ rfl hl.1 rfl (Nat.le_of_ble_eq_true rfl) dX8_error_31 ⟨by decide, by decide⟩ [0, 3, 4, 5] [1, 2] rfl rfl rfl rfl (by decide) (fun r w1 H locs hp hw => ?_)
      obtain ⟨rfl, rfl⟩ := hp
      have hw := hw.sub (ws' := [(mo, .inr (5, [.ref th, .ref ea, .ref sa, .ref lk, .ref lq, .ref lz, .int (nI (lgc cn)), .int un, .int tm, .ref rb, .ref rn, .ref rt, .ref rk, .int kr, .ref cb, .ref cm, .ref cu, .ref ck, .int kc, .int se, .int tr, .ref mk, .ref nt, .ref kp, .ref iq, .int ka, .int wr])), (th, .inl (G.2.1, 61, .inl (tB m))), (ea, .inl (G.2.1, 61, .inl em)), (lk, .inl (G.2.1, 16, .inl (lgA cn f1 2))), (lq, .inl (G.2.1, 16, .inl (lgA cn f2 (nI k)))), (lz, .inl (G.2.1, 16, .inl (lgA cn f3 (em k))))]) [2, 0, 1, 3, 4, 5] rfl rfl
      refine W.eq (g2 := F0 mt 34 ls []) rfl ?_
      refine lv_aload_n hx hb dX8_error_34 rfl (lv_at hl 1 rfl) ?_
      refine xg X hw (C := RX8) (T := TX8) (N := 27) (by decide +kernel) 0 rfl rfl 1 (by decide) rfl (by decide +kernel) rfl dX8_error_35 ?_
      refine lv_iload_n hx hb dX8_error_38 rfl (lv_at hl 2 rfl) ?_
      refine lv_iload_n hx hb dX8_error_39 rfl (lv_at hl 3 rfl) ?_
      refine xis X hw 2 rfl (j := k) (rfl) (by omega) (by decide) dX8_error_40 (ws' := [(mo, .inr (5, [.ref th, .ref ea, .ref sa, .ref lk, .ref lq, .ref lz, .int (nI (lgc cn)), .int un, .int tm, .ref rb, .ref rn, .ref rt, .ref rk, .int kr, .ref cb, .ref cm, .ref cu, .ref ck, .int kc, .int se, .int tr, .ref mk, .ref nt, .ref kp, .ref iq, .int ka, .int wr])), (th, .inl (G.2.1, 61, .inl (tB m))), (ea, .inl (G.2.1, 61, .inl (upd em k v))), (lk, .inl (G.2.1, 16, .inl (lgA cn f1 2))), (lq, .inl (G.2.1, 16, .inl (lgA cn f2 (nI k)))), (lz, .inl (G.2.1, 16, .inl (lgA cn f3 (em k))))]) rfl (fun H locs hw => ?_)
      refine lv_aload_n hx hb dX8_error_41 rfl (lv_at hl 1 rfl) ?_
      refine lv_dup hx hb dX8_error_42 rfl ?_
      refine xg X hw (C := RX8) (T := TX8) (N := 27) (by decide +kernel) 0 rfl rfl 8 (by decide) rfl (by decide +kernel) rfl dX8_error_43 ?_
      refine lv_iconst (v := 1) hx hb dX8_error_46 (by decide) ?_
      refine lv_iadd hx hb dX8_error_47 ?_
      refine xp X hw (C := RX8) (ty := .int) (T := TX8) (N := 27) (by decide +kernel) tyX8 tyX8_ok nmX8 0 rfl rfl 8 (by decide) rfl (by decide +kernel) rfl (by decide +kernel) rfl rfl (Nat.le_of_ble_eq_true rfl) dX8_error_48 (ws' := [(mo, .inr (5, [.ref th, .ref ea, .ref sa, .ref lk, .ref lq, .ref lz, .int (nI (lgc cn)), .int un, .int (tm + 1), .ref rb, .ref rn, .ref rt, .ref rk, .int kr, .ref cb, .ref cm, .ref cu, .ref ck, .int kc, .int se, .int tr, .ref mk, .ref nt, .ref kp, .ref iq, .int ka, .int wr])), (th, .inl (G.2.1, 61, .inl (tB m))), (ea, .inl (G.2.1, 61, .inl (upd em k v))), (lk, .inl (G.2.1, 16, .inl (lgA cn f1 2))), (lq, .inl (G.2.1, 16, .inl (lgA cn f2 (nI k)))), (lz, .inl (G.2.1, 16, .inl (lgA cn f3 (em k))))]) rfl (fun H locs hw => ?_)
      refine lv_iload_n hx hb dX8_error_51 rfl (lv_at hl 0 rfl) ?_
      refine hret _ _ _ _ _ _ dX8_error_52 hw ?_
      refine ⟨congrArg (fun z => some (Value.int z)) (by simp [errR, hs, hp, hck]), Or.inr ⟨by simp [errOk, hs, hp], ?_⟩⟩
      rw [hck]
    · have hp := bi_f c14
      refine lv_bipush (v := (-2)) hx hb dX8_error_17 (by decide) ?_
      refine hret _ _ _ _ _ _ dX8_error_19 hw ?_
      exact ⟨congrArg (fun z => some (Value.int z)) (by simp [errR, hs, hp]), Or.inl ⟨by simp [errOk, hs, hp], rfl⟩⟩
  · have hs := bi_f c5
    refine lv_iconst (v := (-1)) hx hb dX8_error_8 (by decide) ?_
    refine hret _ _ _ _ _ _ dX8_error_9 hw ?_
    exact ⟨congrArg (fun z => some (Value.int z)) (by simp [errR, hs]), Or.inl ⟨by simp [errOk, hs], rfl⟩⟩

set_option maxHeartbeats 4000000 in
set_option maxRecDepth 100000 in
theorem c_X8_sky (l : Launch) (G : GG) (mo : Nat) (th : Nat) (ea : Nat) (sa : Nat) (lk : Nat) (lq : Nat) (lz : Nat) (rb : Nat) (rn : Nat) (rt : Nat) (rk : Nat) (cb : Nat) (cm : Nat) (cu : Nat) (ck : Nat) (mk : Nat) (nt : Nat) (kp : Nat) (iq : Nat) (lg : Int32) (un : Int32) (tm : Int32) (kr : Int32) (kc : Int32) (se : Int32) (tr : Int32) (ka : Int32) (wr : Int32) (sk : Nat → Int32) (x : Int32) (v : Int32)  : CT l G yX8_sky wsX8_sky ({ frames := 2, cells := 0, slots := 0, locals := 45 } : Room) [.ref mo, .int x, .int v] [(mo, .inr (5, [.ref th, .ref ea, .ref sa, .ref lk, .ref lq, .ref lz, .int lg, .int un, .int tm, .ref rb, .ref rn, .ref rt, .ref rk, .int kr, .ref cb, .ref cm, .ref cu, .ref ck, .int kc, .int se, .int tr, .ref mk, .ref nt, .ref kp, .ref iq, .int ka, .int wr])), (sa, .inl (G.2.1, 61, .inl sk))] (fun r w => r = some (.int (skyR sk x v)) ∧ ((skyOk x v = false ∧ w = [(mo, .inr (5, [.ref th, .ref ea, .ref sa, .ref lk, .ref lq, .ref lz, .int lg, .int un, .int tm, .ref rb, .ref rn, .ref rt, .ref rk, .int kr, .ref cb, .ref cm, .ref cu, .ref ck, .int kc, .int se, .int tr, .ref mk, .ref nt, .ref kp, .ref iq, .int ka, .int wr])), (sa, .inl (G.2.1, 61, .inl sk))]) ∨ (skyOk x v = true ∧ w = [(mo, .inr (5, [.ref th, .ref ea, .ref sa, .ref lk, .ref lq, .ref lz, .int lg, .int un, .int (tm + 1), .ref rb, .ref rn, .ref rt, .ref rk, .int kr, .ref cb, .ref cm, .ref cu, .ref ck, .int kc, .int se, .int tr, .ref mk, .ref nt, .ref kp, .ref iq, .int ka, .int wr])), (sa, .inl (G.2.1, 61, .inl (upd sk x.toNatClampNeg v)))]))) 0 0 := by
  refine ct_i (cc := cX8_sky) (maxL := 4) (by decide +kernel) rfl (Nat.le_of_ble_eq_true rfl) ?_
  intro p e s mt below meth c A Q X hw hret ls hl
  obtain ⟨hx, hb, -⟩ := id X
  have hl : lv_has ls 4 [(0, .ref mo), (1, .int x), (2, .int v)] := hl
  refine lv_iload_n hx hb dX8_sky_0 rfl (lv_at hl 1 rfl) ?_
  refine lv_i2l (v := x.toInt64) hx hb dX8_sky_1 (by rfl) ?_
  refine lv_lconst (v := 1) hx hb dX8_sky_2 (by decide) ?_
  refine xc2 X (v := 60) (by decide +kernel) dX8_sky_3 ?_
  refine xcP (n := 3) (As := [.long x.toInt64, .long 1, .long 60]) (rest := []) X hw (c_X8_in l G x.toInt64 1 60 ) gX8_sky_X8_in rfl ⟨rfl, rfl⟩ (by decide +kernel) ⟨by decide, by decide⟩ rfl hl.1 rfl (Nat.le_of_ble_eq_true rfl) dX8_sky_6 ⟨by decide, by decide⟩ (fun r w1 H locs hp hw => ?_)
  obtain rfl := hp
  refine W.eq (g2 := F0 mt 9 ls [.int (bi (inJ x.toInt64 1 60))]) rfl ?_
  refine x_cvi (y := bi (inL x)) (by rw [inJ_L]) ?_
  refine lv_if_eq (tgt := 19) hx hb dX8_sky_9 (by decide) (fun c9 => ?_) (fun c9 => ?_)
  · have hi := bi_f c9
    refine lv_bipush (v := (-2)) hx hb dX8_sky_19 (by decide) ?_
    refine hret _ _ _ _ _ _ dX8_sky_21 hw ?_
    exact ⟨congrArg (fun z => some (Value.int z)) (by simp [skyR, skyOk, hi]), Or.inl ⟨by simp [skyOk, hi], rfl⟩⟩
  · have hi := bi_t c9
    obtain ⟨k, hk1, hk, rfl⟩ := inL_of hi
    have hck := cl_k hk
    refine lv_iload_n hx hb dX8_sky_12 rfl (lv_at hl 2 rfl) ?_
    refine xcP (n := 1) (As := [.int v]) (rest := []) X hw (c_X8_isPhase l G v ) gX8_sky_X8_isPhase rfl ⟨rfl, rfl⟩ (by decide +kernel) ⟨by decide, by decide⟩ rfl hl.1 rfl (Nat.le_of_ble_eq_true rfl) dX8_sky_13 ⟨by decide, by decide⟩ (fun r w1 H locs hp hw => ?_)
    obtain rfl := hp
    refine W.eq (g2 := F0 mt 16 ls [.int (bi (inP v))]) rfl ?_
    refine lv_if_ne (tgt := 22) hx hb dX8_sky_16 (by decide) (fun c16 => ?_) (fun c16 => ?_)
    · have hp := bi_t c16
      refine lv_aload_n hx hb dX8_sky_22 rfl (lv_at hl 0 rfl) ?_
      refine xg X hw (C := RX8) (T := TX8) (N := 27) (by decide +kernel) 0 rfl rfl 2 (by decide) rfl (by decide +kernel) rfl dX8_sky_23 ?_
      refine lv_iload_n hx hb dX8_sky_26 rfl (lv_at hl 1 rfl) ?_
      refine xia X hw 1 rfl (j := k) (rfl) (by omega) (by decide) dX8_sky_27 ?_
      refine lv_istore_n (lv' := [(3, .int (sk k)), (0, .ref mo), (1, .int (nI k)), (2, .int v)]) hx hb dX8_sky_28 rfl hl (by decide) rfl (fun ls hl => ?_)
      refine lv_aload_n hx hb dX8_sky_29 rfl (lv_at hl 1 rfl) ?_
      refine xg X hw (C := RX8) (T := TX8) (N := 27) (by decide +kernel) 0 rfl rfl 2 (by decide) rfl (by decide +kernel) rfl dX8_sky_30 ?_
      refine lv_iload_n hx hb dX8_sky_33 rfl (lv_at hl 2 rfl) ?_
      refine lv_iload_n hx hb dX8_sky_34 rfl (lv_at hl 3 rfl) ?_
      refine xis X hw 1 rfl (j := k) (rfl) (by omega) (by decide) dX8_sky_35 (ws' := [(mo, .inr (5, [.ref th, .ref ea, .ref sa, .ref lk, .ref lq, .ref lz, .int lg, .int un, .int tm, .ref rb, .ref rn, .ref rt, .ref rk, .int kr, .ref cb, .ref cm, .ref cu, .ref ck, .int kc, .int se, .int tr, .ref mk, .ref nt, .ref kp, .ref iq, .int ka, .int wr])), (sa, .inl (G.2.1, 61, .inl (upd sk k v)))]) rfl (fun H locs hw => ?_)
      refine lv_aload_n hx hb dX8_sky_36 rfl (lv_at hl 1 rfl) ?_
      refine lv_dup hx hb dX8_sky_37 rfl ?_
      refine xg X hw (C := RX8) (T := TX8) (N := 27) (by decide +kernel) 0 rfl rfl 8 (by decide) rfl (by decide +kernel) rfl dX8_sky_38 ?_
      refine lv_iconst (v := 1) hx hb dX8_sky_41 (by decide) ?_
      refine lv_iadd hx hb dX8_sky_42 ?_
      refine xp X hw (C := RX8) (ty := .int) (T := TX8) (N := 27) (by decide +kernel) tyX8 tyX8_ok nmX8 0 rfl rfl 8 (by decide) rfl (by decide +kernel) rfl (by decide +kernel) rfl rfl (Nat.le_of_ble_eq_true rfl) dX8_sky_43 (ws' := [(mo, .inr (5, [.ref th, .ref ea, .ref sa, .ref lk, .ref lq, .ref lz, .int lg, .int un, .int (tm + 1), .ref rb, .ref rn, .ref rt, .ref rk, .int kr, .ref cb, .ref cm, .ref cu, .ref ck, .int kc, .int se, .int tr, .ref mk, .ref nt, .ref kp, .ref iq, .int ka, .int wr])), (sa, .inl (G.2.1, 61, .inl (upd sk k v)))]) rfl (fun H locs hw => ?_)
      refine lv_iload_n hx hb dX8_sky_46 rfl (lv_at hl 0 rfl) ?_
      refine hret _ _ _ _ _ _ dX8_sky_47 hw ?_
      refine ⟨congrArg (fun z => some (Value.int z)) (by simp [skyR, skyOk, hi, hp, hck]), Or.inr ⟨by simp [skyOk, hi, hp], ?_⟩⟩
      rw [hck]
    · have hp := bi_f c16
      refine lv_bipush (v := (-2)) hx hb dX8_sky_19 (by decide) ?_
      refine hret _ _ _ _ _ _ dX8_sky_21 hw ?_
      exact ⟨congrArg (fun z => some (Value.int z)) (by simp [skyR, skyOk, hi, hp]), Or.inl ⟨by simp [skyOk, hi, hp], rfl⟩⟩

set_option maxHeartbeats 4000000 in
set_option maxRecDepth 100000 in
theorem c_X8_phaseOf (l : Launch) (G : GG) (mo : Nat) (th : Nat) (ea : Nat) (sa : Nat) (lk : Nat) (lq : Nat) (lz : Nat) (rb : Nat) (rn : Nat) (rt : Nat) (rk : Nat) (cb : Nat) (cm : Nat) (cu : Nat) (ck : Nat) (mk : Nat) (nt : Nat) (kp : Nat) (iq : Nat) (lg : Int32) (un : Int32) (tm : Int32) (kr : Int32) (kc : Int32) (se : Int32) (tr : Int32) (ka : Int32) (wr : Int32) (em : Nat → Int32) (sk : Nat → Int32) (a : Nat) (b : Nat) (ha : a ≤ 60) (hb2 : b ≤ 60) : CT l G yX8_phaseOf wsX8_phaseOf ({ frames := 1, cells := 0, slots := 0, locals := 20 } : Room) [.ref mo, .int (nI a), .int (nI b)] [(mo, .inr (5, [.ref th, .ref ea, .ref sa, .ref lk, .ref lq, .ref lz, .int lg, .int un, .int tm, .ref rb, .ref rn, .ref rt, .ref rk, .int kr, .ref cb, .ref cm, .ref cu, .ref ck, .int kc, .int se, .int tr, .ref mk, .ref nt, .ref kp, .ref iq, .int ka, .int wr])), (ea, .inl (G.2.1, 61, .inl em)), (sa, .inl (G.2.1, 61, .inl sk))] (fun r w => r = some (.int (phv sk em a b)) ∧ w = [(mo, .inr (5, [.ref th, .ref ea, .ref sa, .ref lk, .ref lq, .ref lz, .int lg, .int un, .int tm, .ref rb, .ref rn, .ref rt, .ref rk, .int kr, .ref cb, .ref cm, .ref cu, .ref ck, .int kc, .int se, .int tr, .ref mk, .ref nt, .ref kp, .ref iq, .int ka, .int wr])), (ea, .inl (G.2.1, 61, .inl em)), (sa, .inl (G.2.1, 61, .inl sk))]) 0 0 := by
  refine ct_i (cc := cX8_phaseOf) (maxL := 3) (by decide +kernel) rfl (Nat.le_of_ble_eq_true rfl) ?_
  intro p e s mt below meth c A Q X hw hret ls hl
  obtain ⟨hx, hb, -⟩ := id X
  have hl : lv_has ls 3 [(0, .ref mo), (1, .int (nI a)), (2, .int (nI b))] := hl
  refine lv_iload_n hx hb dX8_phaseOf_0 rfl (lv_at hl 2 rfl) ?_
  refine lv_iload_n hx hb dX8_phaseOf_1 rfl (lv_at hl 1 rfl) ?_
  refine lv_icmp_le (tgt := 33) hx hb dX8_phaseOf_2 (by decide) (fun c2 => ?_) (fun c2 => ?_)
  · have hlt : b ≤ a := i_le (by omega) (by omega) c2
    refine lv_aload_n hx hb dX8_phaseOf_33 rfl (lv_at hl 0 rfl) ?_
    refine xg X hw (C := RX8) (T := TX8) (N := 27) (by decide +kernel) 0 rfl rfl 2 (by decide) rfl (by decide +kernel) rfl dX8_phaseOf_34 ?_
    refine lv_iload_n hx hb dX8_phaseOf_37 rfl (lv_at hl 1 rfl) ?_
    refine lv_iload_n hx hb dX8_phaseOf_38 rfl (lv_at hl 2 rfl) ?_
    refine lv_isub hx hb dX8_phaseOf_39 ?_
    refine x_cvi (y := nI (a - b)) (by exact pk_sub (by omega)) ?_
    refine xia X hw 2 rfl (j := (a - b)) (rfl) (by omega) (by decide) dX8_phaseOf_40 ?_
    refine lv_aload_n hx hb dX8_phaseOf_41 rfl (lv_at hl 0 rfl) ?_
    refine xg X hw (C := RX8) (T := TX8) (N := 27) (by decide +kernel) 0 rfl rfl 1 (by decide) rfl (by decide +kernel) rfl dX8_phaseOf_42 ?_
    refine lv_iload_n hx hb dX8_phaseOf_45 rfl (lv_at hl 1 rfl) ?_
    refine xia X hw 1 rfl (j := a) (rfl) (by omega) (by decide) dX8_phaseOf_46 ?_
    refine lv_iadd hx hb dX8_phaseOf_47 ?_
    refine lv_aload_n hx hb dX8_phaseOf_48 rfl (lv_at hl 0 rfl) ?_
    refine xg X hw (C := RX8) (T := TX8) (N := 27) (by decide +kernel) 0 rfl rfl 1 (by decide) rfl (by decide +kernel) rfl dX8_phaseOf_49 ?_
    refine lv_iload_n hx hb dX8_phaseOf_52 rfl (lv_at hl 2 rfl) ?_
    refine xia X hw 1 rfl (j := b) (rfl) (by omega) (by decide) dX8_phaseOf_53 ?_
    refine lv_isub hx hb dX8_phaseOf_54 ?_
    refine lv_ineg hx hb dX8_phaseOf_55 ?_
    refine xcP (n := 1) (As := [.int (-(((sk (a - b)) + (em a)) - (em b)))]) (rest := []) X hw (c_X8_over l G (-(((sk (a - b)) + (em a)) - (em b))) ) gX8_phaseOf_X8_over rfl ⟨rfl, rfl⟩ (by decide +kernel) ⟨by decide, by decide⟩ rfl hl.1 rfl (Nat.le_of_ble_eq_true rfl) dX8_phaseOf_56 ⟨by decide, by decide⟩ (fun r w1 H locs hp hw => ?_)
    obtain rfl := hp
    refine W.eq (g2 := F0 mt 59 ls [.int (fm (-(((sk (a - b)) + (em a)) - (em b))) 360)]) rfl ?_
    refine hret _ _ _ _ _ _ dX8_phaseOf_59 hw ?_
    exact ⟨congrArg (fun z => some (Value.int z)) (by unfold phv; first | (rw [if_pos hlt]; done) | (rw [if_neg (by omega)]; done)), rfl⟩
  · have hlt : a < b := i_nle (by omega) (by omega) c2
    refine lv_aload_n hx hb dX8_phaseOf_5 rfl (lv_at hl 0 rfl) ?_
    refine xg X hw (C := RX8) (T := TX8) (N := 27) (by decide +kernel) 0 rfl rfl 2 (by decide) rfl (by decide +kernel) rfl dX8_phaseOf_6 ?_
    refine lv_iload_n hx hb dX8_phaseOf_9 rfl (lv_at hl 2 rfl) ?_
    refine lv_iload_n hx hb dX8_phaseOf_10 rfl (lv_at hl 1 rfl) ?_
    refine lv_isub hx hb dX8_phaseOf_11 ?_
    refine x_cvi (y := nI (b - a)) (by exact pk_sub (by omega)) ?_
    refine xia X hw 2 rfl (j := (b - a)) (rfl) (by omega) (by decide) dX8_phaseOf_12 ?_
    refine lv_aload_n hx hb dX8_phaseOf_13 rfl (lv_at hl 0 rfl) ?_
    refine xg X hw (C := RX8) (T := TX8) (N := 27) (by decide +kernel) 0 rfl rfl 1 (by decide) rfl (by decide +kernel) rfl dX8_phaseOf_14 ?_
    refine lv_iload_n hx hb dX8_phaseOf_17 rfl (lv_at hl 2 rfl) ?_
    refine xia X hw 1 rfl (j := b) (rfl) (by omega) (by decide) dX8_phaseOf_18 ?_
    refine lv_iadd hx hb dX8_phaseOf_19 ?_
    refine lv_aload_n hx hb dX8_phaseOf_20 rfl (lv_at hl 0 rfl) ?_
    refine xg X hw (C := RX8) (T := TX8) (N := 27) (by decide +kernel) 0 rfl rfl 1 (by decide) rfl (by decide +kernel) rfl dX8_phaseOf_21 ?_
    refine lv_iload_n hx hb dX8_phaseOf_24 rfl (lv_at hl 1 rfl) ?_
    refine xia X hw 1 rfl (j := a) (rfl) (by omega) (by decide) dX8_phaseOf_25 ?_
    refine lv_isub hx hb dX8_phaseOf_26 ?_
    refine xcP (n := 1) (As := [.int (((sk (b - a)) + (em b)) - (em a))]) (rest := []) X hw (c_X8_over l G (((sk (b - a)) + (em b)) - (em a)) ) gX8_phaseOf_X8_over rfl ⟨rfl, rfl⟩ (by decide +kernel) ⟨by decide, by decide⟩ rfl hl.1 rfl (Nat.le_of_ble_eq_true rfl) dX8_phaseOf_27 ⟨by decide, by decide⟩ (fun r w1 H locs hp hw => ?_)
    obtain rfl := hp
    refine W.eq (g2 := F0 mt 30 ls [.int (fm (((sk (b - a)) + (em b)) - (em a)) 360)]) rfl ?_
    refine lv_goto (tgt := 59) hx hb dX8_phaseOf_30 (by decide) ?_
    refine hret _ _ _ _ _ _ dX8_phaseOf_59 hw ?_
    exact ⟨congrArg (fun z => some (Value.int z)) (by unfold phv; first | (rw [if_pos hlt]; done) | (rw [if_neg (by omega)]; done)), rfl⟩

set_option maxHeartbeats 4000000 in
set_option maxRecDepth 100000 in
theorem c_X8_phase (l : Launch) (G : GG) (mo : Nat) (th : Nat) (ea : Nat) (sa : Nat) (lk : Nat) (lq : Nat) (lz : Nat) (rb : Nat) (rn : Nat) (rt : Nat) (rk : Nat) (cb : Nat) (cm : Nat) (cu : Nat) (ck : Nat) (mk : Nat) (nt : Nat) (kp : Nat) (iq : Nat) (lg : Int32) (un : Int32) (tm : Int32) (kr : Int32) (kc : Int32) (se : Int32) (tr : Int32) (ka : Int32) (wr : Int32) (m : Nat) (em : Nat → Int32) (sk : Nat → Int32) (x : Int32) (y : Int32)  : CT l G yX8_phase wsX8_phase ({ frames := 2, cells := 0, slots := 0, locals := 46 } : Room) [.ref mo, .int x, .int y] [(mo, .inr (5, [.ref th, .ref ea, .ref sa, .ref lk, .ref lq, .ref lz, .int lg, .int un, .int tm, .ref rb, .ref rn, .ref rt, .ref rk, .int kr, .ref cb, .ref cm, .ref cu, .ref ck, .int kc, .int se, .int tr, .ref mk, .ref nt, .ref kp, .ref iq, .int ka, .int wr])), (th, .inl (G.2.1, 61, .inl (tB m))), (ea, .inl (G.2.1, 61, .inl em)), (sa, .inl (G.2.1, 61, .inl sk))] (fun r w => r = some (.int (phR m em sk x y)) ∧ w = [(mo, .inr (5, [.ref th, .ref ea, .ref sa, .ref lk, .ref lq, .ref lz, .int lg, .int un, .int tm, .ref rb, .ref rn, .ref rt, .ref rk, .int kr, .ref cb, .ref cm, .ref cu, .ref ck, .int kc, .int se, .int tr, .ref mk, .ref nt, .ref kp, .ref iq, .int ka, .int wr])), (th, .inl (G.2.1, 61, .inl (tB m))), (ea, .inl (G.2.1, 61, .inl em)), (sa, .inl (G.2.1, 61, .inl sk))]) 0 0 := by
  refine ct_i (cc := cX8_phase) (maxL := 3) (by decide +kernel) rfl (Nat.le_of_ble_eq_true rfl) ?_
  intro p e s mt below meth c A Q X hw hret ls hl
  obtain ⟨hx, hb, -⟩ := id X
  have hl : lv_has ls 3 [(0, .ref mo), (1, .int x), (2, .int y)] := hl
  refine lv_aload_n hx hb dX8_phase_0 rfl (lv_at hl 0 rfl) ?_
  refine lv_iload_n hx hb dX8_phase_1 rfl (lv_at hl 1 rfl) ?_
  refine xcV (n := 1) (As := [.int x]) (rest := []) (wc := [(mo, .inr (5, [.ref th, .ref ea, .ref sa, .ref lk, .ref lq, .ref lz, .int lg, .int un, .int tm, .ref rb, .ref rn, .ref rt, .ref rk, .int kr, .ref cb, .ref cm, .ref cu, .ref ck, .int kc, .int se, .int tr, .ref mk, .ref nt, .ref kp, .ref iq, .int ka, .int wr])), (th, .inl (G.2.1, 61, .inl (tB m)))]) (wr := [(ea, .inl (G.2.1, 61, .inl em)), (sa, .inl (G.2.1, 61, .inl sk))]) X hw (c_X8_isDish l G mo th ea sa lk lq lz rb rn rt rk cb cm cu ck mk nt kp iq lg un tm kr kc se tr ka wr m x ) (C := RX8) gX8_phase_X8_isDish (q0 := 0) rfl rfl rfl ⟨rfl, rfl⟩ (by decide +kernel) ⟨by decide, by decide⟩ rfl hl.1 rfl (Nat.le_of_ble_eq_true rfl) dX8_phase_2 ⟨by decide, by decide⟩ [0, 1] [2, 3] rfl rfl rfl rfl (by decide) (fun r w1 H locs hp hw => ?_)
  obtain ⟨rfl, rfl⟩ := hp
  have hw := hw.sub (ws' := [(mo, .inr (5, [.ref th, .ref ea, .ref sa, .ref lk, .ref lq, .ref lz, .int lg, .int un, .int tm, .ref rb, .ref rn, .ref rt, .ref rk, .int kr, .ref cb, .ref cm, .ref cu, .ref ck, .int kc, .int se, .int tr, .ref mk, .ref nt, .ref kp, .ref iq, .int ka, .int wr])), (th, .inl (G.2.1, 61, .inl (tB m))), (ea, .inl (G.2.1, 61, .inl em)), (sa, .inl (G.2.1, 61, .inl sk))]) [2, 3, 0, 1] rfl rfl
  refine W.eq (g2 := F0 mt 5 ls [.int (bi (stn m x))]) rfl ?_
  refine lv_if_eq (tgt := 16) hx hb dX8_phase_5 (by decide) (fun c5 => ?_) (fun c5 => ?_)
  · have hs := bi_f c5
    refine lv_iconst (v := (-1)) hx hb dX8_phase_16 (by decide) ?_
    refine hret _ _ _ _ _ _ dX8_phase_17 hw ?_
    exact ⟨congrArg (fun z => some (Value.int z)) (by simp [phR, hs]), rfl⟩
  · have hs := bi_t c5
    obtain ⟨k, hk, rfl, hbk⟩ := stn_in hs
    have hck := cl_k hk
    refine lv_aload_n hx hb dX8_phase_8 rfl (lv_at hl 0 rfl) ?_
    refine lv_iload_n hx hb dX8_phase_9 rfl (lv_at hl 2 rfl) ?_
    refine xcV (n := 1) (As := [.int y]) (rest := []) (wc := [(mo, .inr (5, [.ref th, .ref ea, .ref sa, .ref lk, .ref lq, .ref lz, .int lg, .int un, .int tm, .ref rb, .ref rn, .ref rt, .ref rk, .int kr, .ref cb, .ref cm, .ref cu, .ref ck, .int kc, .int se, .int tr, .ref mk, .ref nt, .ref kp, .ref iq, .int ka, .int wr])), (th, .inl (G.2.1, 61, .inl (tB m)))]) (wr := [(ea, .inl (G.2.1, 61, .inl em)), (sa, .inl (G.2.1, 61, .inl sk))]) X hw (c_X8_isDish l G mo th ea sa lk lq lz rb rn rt rk cb cm cu ck mk nt kp iq lg un tm kr kc se tr ka wr m y ) (C := RX8) gX8_phase_X8_isDish (q0 := 0) rfl rfl rfl ⟨rfl, rfl⟩ (by decide +kernel) ⟨by decide, by decide⟩ rfl hl.1 rfl (Nat.le_of_ble_eq_true rfl) dX8_phase_10 ⟨by decide, by decide⟩ [0, 1] [2, 3] rfl rfl rfl rfl (by decide) (fun r w1 H locs hp hw => ?_)
    obtain ⟨rfl, rfl⟩ := hp
    have hw := hw.sub (ws' := [(mo, .inr (5, [.ref th, .ref ea, .ref sa, .ref lk, .ref lq, .ref lz, .int lg, .int un, .int tm, .ref rb, .ref rn, .ref rt, .ref rk, .int kr, .ref cb, .ref cm, .ref cu, .ref ck, .int kc, .int se, .int tr, .ref mk, .ref nt, .ref kp, .ref iq, .int ka, .int wr])), (th, .inl (G.2.1, 61, .inl (tB m))), (ea, .inl (G.2.1, 61, .inl em)), (sa, .inl (G.2.1, 61, .inl sk))]) [2, 3, 0, 1] rfl rfl
    refine W.eq (g2 := F0 mt 13 ls [.int (bi (stn m y))]) rfl ?_
    refine lv_if_ne (tgt := 18) hx hb dX8_phase_13 (by decide) (fun c13 => ?_) (fun c13 => ?_)
    · have hs2 := bi_t c13
      obtain ⟨k2, hk2, rfl, hbk2⟩ := stn_in hs2
      have hck2 := cl_k hk2
      refine lv_iload_n hx hb dX8_phase_18 rfl (lv_at hl 1 rfl) ?_
      refine lv_iload_n hx hb dX8_phase_19 rfl (lv_at hl 2 rfl) ?_
      refine lv_icmp_ne (tgt := 28) hx hb dX8_phase_20 (by decide) (fun c20 => ?_) (fun c20 => ?_)
      · refine lv_aload_n hx hb dX8_phase_28 rfl (lv_at hl 0 rfl) ?_
        refine lv_iload_n hx hb dX8_phase_29 rfl (lv_at hl 1 rfl) ?_
        refine lv_iload_n hx hb dX8_phase_30 rfl (lv_at hl 2 rfl) ?_
        refine xcV (n := 2) (As := [.int (nI k), .int (nI k2)]) (rest := []) (wc := [(mo, .inr (5, [.ref th, .ref ea, .ref sa, .ref lk, .ref lq, .ref lz, .int lg, .int un, .int tm, .ref rb, .ref rn, .ref rt, .ref rk, .int kr, .ref cb, .ref cm, .ref cu, .ref ck, .int kc, .int se, .int tr, .ref mk, .ref nt, .ref kp, .ref iq, .int ka, .int wr])), (ea, .inl (G.2.1, 61, .inl em)), (sa, .inl (G.2.1, 61, .inl sk))]) (wr := [(th, .inl (G.2.1, 61, .inl (tB m)))]) X hw (c_X8_phaseOf l G mo th ea sa lk lq lz rb rn rt rk cb cm cu ck mk nt kp iq lg un tm kr kc se tr ka wr em sk k k2 hk hk2) (C := RX8) gX8_phase_X8_phaseOf (q0 := 0) rfl rfl rfl ⟨rfl, rfl⟩ (by decide +kernel) ⟨by decide, by decide⟩ rfl hl.1 rfl (Nat.le_of_ble_eq_true rfl) dX8_phase_31 ⟨by decide, by decide⟩ [0, 2, 3] [1] rfl rfl rfl rfl (by decide) (fun r w1 H locs hp hw => ?_)
        obtain ⟨rfl, rfl⟩ := hp
        have hw := hw.sub (ws' := [(mo, .inr (5, [.ref th, .ref ea, .ref sa, .ref lk, .ref lq, .ref lz, .int lg, .int un, .int tm, .ref rb, .ref rn, .ref rt, .ref rk, .int kr, .ref cb, .ref cm, .ref cu, .ref ck, .int kc, .int se, .int tr, .ref mk, .ref nt, .ref kp, .ref iq, .int ka, .int wr])), (th, .inl (G.2.1, 61, .inl (tB m))), (ea, .inl (G.2.1, 61, .inl em)), (sa, .inl (G.2.1, 61, .inl sk))]) [1, 0, 2, 3] rfl rfl
        refine W.eq (g2 := F0 mt 34 ls [.int (phv sk em k k2)]) rfl ?_
        refine hret _ _ _ _ _ _ dX8_phase_34 hw ?_
        exact ⟨congrArg (fun z => some (Value.int z)) (by simp [phR, hs, hs2, c20, hck, hck2]), rfl⟩
      · refine lv_bipush (v := (-5)) hx hb dX8_phase_23 (by decide) ?_
        refine lv_goto (tgt := 34) hx hb dX8_phase_25 (by decide) ?_
        refine hret _ _ _ _ _ _ dX8_phase_34 hw ?_
        exact ⟨congrArg (fun z => some (Value.int z)) (by simp [phR, hs, hs2, c20]), rfl⟩
    · have hs2 := bi_f c13
      refine lv_iconst (v := (-1)) hx hb dX8_phase_16 (by decide) ?_
      refine hret _ _ _ _ _ _ dX8_phase_17 hw ?_
      exact ⟨congrArg (fun z => some (Value.int z)) (by simp [phR, hs, hs2]), rfl⟩

set_option maxHeartbeats 4000000 in
set_option maxRecDepth 100000 in
theorem c_X8_closure (l : Launch) (G : GG) (mo : Nat) (th : Nat) (ea : Nat) (sa : Nat) (lk : Nat) (lq : Nat) (lz : Nat) (rb : Nat) (rn : Nat) (rt : Nat) (rk : Nat) (cb : Nat) (cm : Nat) (cu : Nat) (ck : Nat) (mk : Nat) (nt : Nat) (kp : Nat) (iq : Nat) (lg : Int32) (un : Int32) (tm : Int32) (kr : Int32) (kc : Int32) (se : Int32) (tr : Int32) (ka : Int32) (wr : Int32) (m : Nat) (em : Nat → Int32) (sk : Nat → Int32) (x : Int32) (y : Int32) (z : Int32)  : CT l G yX8_closure wsX8_closure ({ frames := 2, cells := 0, slots := 0, locals := 46 } : Room) [.ref mo, .int x, .int y, .int z] [(mo, .inr (5, [.ref th, .ref ea, .ref sa, .ref lk, .ref lq, .ref lz, .int lg, .int un, .int tm, .ref rb, .ref rn, .ref rt, .ref rk, .int kr, .ref cb, .ref cm, .ref cu, .ref ck, .int kc, .int se, .int tr, .ref mk, .ref nt, .ref kp, .ref iq, .int ka, .int wr])), (th, .inl (G.2.1, 61, .inl (tB m))), (ea, .inl (G.2.1, 61, .inl em)), (sa, .inl (G.2.1, 61, .inl sk))] (fun r w => r = some (.int (clR m em sk x y z)) ∧ w = [(mo, .inr (5, [.ref th, .ref ea, .ref sa, .ref lk, .ref lq, .ref lz, .int lg, .int un, .int tm, .ref rb, .ref rn, .ref rt, .ref rk, .int kr, .ref cb, .ref cm, .ref cu, .ref ck, .int kc, .int se, .int tr, .ref mk, .ref nt, .ref kp, .ref iq, .int ka, .int wr])), (th, .inl (G.2.1, 61, .inl (tB m))), (ea, .inl (G.2.1, 61, .inl em)), (sa, .inl (G.2.1, 61, .inl sk))]) 0 0 := by
  refine ct_i (cc := cX8_closure) (maxL := 4) (by decide +kernel) rfl (Nat.le_of_ble_eq_true rfl) ?_
  intro p e s mt below meth c A Q X hw hret ls hl
  obtain ⟨hx, hb, -⟩ := id X
  have hl : lv_has ls 4 [(0, .ref mo), (1, .int x), (2, .int y), (3, .int z)] := hl
  refine lv_aload_n hx hb dX8_closure_0 rfl (lv_at hl 0 rfl) ?_
  refine lv_iload_n hx hb dX8_closure_1 rfl (lv_at hl 1 rfl) ?_
  refine xcV (n := 1) (As := [.int x]) (rest := []) (wc := [(mo, .inr (5, [.ref th, .ref ea, .ref sa, .ref lk, .ref lq, .ref lz, .int lg, .int un, .int tm, .ref rb, .ref rn, .ref rt, .ref rk, .int kr, .ref cb, .ref cm, .ref cu, .ref ck, .int kc, .int se, .int tr, .ref mk, .ref nt, .ref kp, .ref iq, .int ka, .int wr])), (th, .inl (G.2.1, 61, .inl (tB m)))]) (wr := [(ea, .inl (G.2.1, 61, .inl em)), (sa, .inl (G.2.1, 61, .inl sk))]) X hw (c_X8_isDish l G mo th ea sa lk lq lz rb rn rt rk cb cm cu ck mk nt kp iq lg un tm kr kc se tr ka wr m x ) (C := RX8) gX8_closure_X8_isDish (q0 := 0) rfl rfl rfl ⟨rfl, rfl⟩ (by decide +kernel) ⟨by decide, by decide⟩ rfl hl.1 rfl (Nat.le_of_ble_eq_true rfl) dX8_closure_2 ⟨by decide, by decide⟩ [0, 1] [2, 3] rfl rfl rfl rfl (by decide) (fun r w1 H locs hp hw => ?_)
  obtain ⟨rfl, rfl⟩ := hp
  have hw := hw.sub (ws' := [(mo, .inr (5, [.ref th, .ref ea, .ref sa, .ref lk, .ref lq, .ref lz, .int lg, .int un, .int tm, .ref rb, .ref rn, .ref rt, .ref rk, .int kr, .ref cb, .ref cm, .ref cu, .ref ck, .int kc, .int se, .int tr, .ref mk, .ref nt, .ref kp, .ref iq, .int ka, .int wr])), (th, .inl (G.2.1, 61, .inl (tB m))), (ea, .inl (G.2.1, 61, .inl em)), (sa, .inl (G.2.1, 61, .inl sk))]) [2, 3, 0, 1] rfl rfl
  refine W.eq (g2 := F0 mt 5 ls [.int (bi (stn m x))]) rfl ?_
  refine lv_if_eq (tgt := 24) hx hb dX8_closure_5 (by decide) (fun c5 => ?_) (fun c5 => ?_)
  · have hs := bi_f c5
    refine lv_iconst (v := (-1)) hx hb dX8_closure_24 (by decide) ?_
    refine hret _ _ _ _ _ _ dX8_closure_25 hw ?_
    exact ⟨congrArg (fun z => some (Value.int z)) (by unfold clR; rw [if_neg (by first | (rw [hs]; simp; done) | (rw [hs2]; simp; done) | (rw [hs3]; simp; done))]), rfl⟩
  · have hs := bi_t c5
    obtain ⟨k, hk, rfl, hbk⟩ := stn_in hs
    have hck := cl_k hk
    refine lv_aload_n hx hb dX8_closure_8 rfl (lv_at hl 0 rfl) ?_
    refine lv_iload_n hx hb dX8_closure_9 rfl (lv_at hl 2 rfl) ?_
    refine xcV (n := 1) (As := [.int y]) (rest := []) (wc := [(mo, .inr (5, [.ref th, .ref ea, .ref sa, .ref lk, .ref lq, .ref lz, .int lg, .int un, .int tm, .ref rb, .ref rn, .ref rt, .ref rk, .int kr, .ref cb, .ref cm, .ref cu, .ref ck, .int kc, .int se, .int tr, .ref mk, .ref nt, .ref kp, .ref iq, .int ka, .int wr])), (th, .inl (G.2.1, 61, .inl (tB m)))]) (wr := [(ea, .inl (G.2.1, 61, .inl em)), (sa, .inl (G.2.1, 61, .inl sk))]) X hw (c_X8_isDish l G mo th ea sa lk lq lz rb rn rt rk cb cm cu ck mk nt kp iq lg un tm kr kc se tr ka wr m y ) (C := RX8) gX8_closure_X8_isDish (q0 := 0) rfl rfl rfl ⟨rfl, rfl⟩ (by decide +kernel) ⟨by decide, by decide⟩ rfl hl.1 rfl (Nat.le_of_ble_eq_true rfl) dX8_closure_10 ⟨by decide, by decide⟩ [0, 1] [2, 3] rfl rfl rfl rfl (by decide) (fun r w1 H locs hp hw => ?_)
    obtain ⟨rfl, rfl⟩ := hp
    have hw := hw.sub (ws' := [(mo, .inr (5, [.ref th, .ref ea, .ref sa, .ref lk, .ref lq, .ref lz, .int lg, .int un, .int tm, .ref rb, .ref rn, .ref rt, .ref rk, .int kr, .ref cb, .ref cm, .ref cu, .ref ck, .int kc, .int se, .int tr, .ref mk, .ref nt, .ref kp, .ref iq, .int ka, .int wr])), (th, .inl (G.2.1, 61, .inl (tB m))), (ea, .inl (G.2.1, 61, .inl em)), (sa, .inl (G.2.1, 61, .inl sk))]) [2, 3, 0, 1] rfl rfl
    refine W.eq (g2 := F0 mt 13 ls [.int (bi (stn m y))]) rfl ?_
    refine lv_if_eq (tgt := 24) hx hb dX8_closure_13 (by decide) (fun c13 => ?_) (fun c13 => ?_)
    · have hs2 := bi_f c13
      refine lv_iconst (v := (-1)) hx hb dX8_closure_24 (by decide) ?_
      refine hret _ _ _ _ _ _ dX8_closure_25 hw ?_
      exact ⟨congrArg (fun z => some (Value.int z)) (by unfold clR; rw [if_neg (by first | (rw [hs]; simp; done) | (rw [hs2]; simp; done) | (rw [hs3]; simp; done))]), rfl⟩
    · have hs2 := bi_t c13
      obtain ⟨k2, hk2, rfl, hbk2⟩ := stn_in hs2
      have hck2 := cl_k hk2
      refine lv_aload_n hx hb dX8_closure_16 rfl (lv_at hl 0 rfl) ?_
      refine lv_iload_n hx hb dX8_closure_17 rfl (lv_at hl 3 rfl) ?_
      refine xcV (n := 1) (As := [.int z]) (rest := []) (wc := [(mo, .inr (5, [.ref th, .ref ea, .ref sa, .ref lk, .ref lq, .ref lz, .int lg, .int un, .int tm, .ref rb, .ref rn, .ref rt, .ref rk, .int kr, .ref cb, .ref cm, .ref cu, .ref ck, .int kc, .int se, .int tr, .ref mk, .ref nt, .ref kp, .ref iq, .int ka, .int wr])), (th, .inl (G.2.1, 61, .inl (tB m)))]) (wr := [(ea, .inl (G.2.1, 61, .inl em)), (sa, .inl (G.2.1, 61, .inl sk))]) X hw (c_X8_isDish l G mo th ea sa lk lq lz rb rn rt rk cb cm cu ck mk nt kp iq lg un tm kr kc se tr ka wr m z ) (C := RX8) gX8_closure_X8_isDish (q0 := 0) rfl rfl rfl ⟨rfl, rfl⟩ (by decide +kernel) ⟨by decide, by decide⟩ rfl hl.1 rfl (Nat.le_of_ble_eq_true rfl) dX8_closure_18 ⟨by decide, by decide⟩ [0, 1] [2, 3] rfl rfl rfl rfl (by decide) (fun r w1 H locs hp hw => ?_)
      obtain ⟨rfl, rfl⟩ := hp
      have hw := hw.sub (ws' := [(mo, .inr (5, [.ref th, .ref ea, .ref sa, .ref lk, .ref lq, .ref lz, .int lg, .int un, .int tm, .ref rb, .ref rn, .ref rt, .ref rk, .int kr, .ref cb, .ref cm, .ref cu, .ref ck, .int kc, .int se, .int tr, .ref mk, .ref nt, .ref kp, .ref iq, .int ka, .int wr])), (th, .inl (G.2.1, 61, .inl (tB m))), (ea, .inl (G.2.1, 61, .inl em)), (sa, .inl (G.2.1, 61, .inl sk))]) [2, 3, 0, 1] rfl rfl
      refine W.eq (g2 := F0 mt 21 ls [.int (bi (stn m z))]) rfl ?_
      refine lv_if_ne (tgt := 26) hx hb dX8_closure_21 (by decide) (fun c21 => ?_) (fun c21 => ?_)
      · have hs3 := bi_t c21
        obtain ⟨k3, hk3, rfl, hbk3⟩ := stn_in hs3
        have hck3 := cl_k hk3
        refine lv_iload_n hx hb dX8_closure_26 rfl (lv_at hl 1 rfl) ?_
        refine lv_iload_n hx hb dX8_closure_27 rfl (lv_at hl 2 rfl) ?_
        refine lv_icmp_eq (tgt := 41) hx hb dX8_closure_28 (by decide) (fun c28 => ?_) (fun c28 => ?_)
        · refine lv_bipush (v := (-5)) hx hb dX8_closure_41 (by decide) ?_
          refine hret _ _ _ _ _ _ dX8_closure_43 hw ?_
          exact ⟨congrArg (fun z => some (Value.int z)) (by simp_all [clR]), rfl⟩
        · refine lv_iload_n hx hb dX8_closure_31 rfl (lv_at hl 2 rfl) ?_
          refine lv_iload_n hx hb dX8_closure_32 rfl (lv_at hl 3 rfl) ?_
          refine lv_icmp_eq (tgt := 41) hx hb dX8_closure_33 (by decide) (fun c33 => ?_) (fun c33 => ?_)
          · refine lv_bipush (v := (-5)) hx hb dX8_closure_41 (by decide) ?_
            refine hret _ _ _ _ _ _ dX8_closure_43 hw ?_
            exact ⟨congrArg (fun z => some (Value.int z)) (by simp_all [clR]), rfl⟩
          · refine lv_iload_n hx hb dX8_closure_36 rfl (lv_at hl 3 rfl) ?_
            refine lv_iload_n hx hb dX8_closure_37 rfl (lv_at hl 1 rfl) ?_
            refine lv_icmp_ne (tgt := 44) hx hb dX8_closure_38 (by decide) (fun c38 => ?_) (fun c38 => ?_)
            · refine lv_aload_n hx hb dX8_closure_44 rfl (lv_at hl 0 rfl) ?_
              refine lv_iload_n hx hb dX8_closure_45 rfl (lv_at hl 1 rfl) ?_
              refine lv_iload_n hx hb dX8_closure_46 rfl (lv_at hl 2 rfl) ?_
              refine xcV (n := 2) (As := [.int (nI k), .int (nI k2)]) (rest := []) (wc := [(mo, .inr (5, [.ref th, .ref ea, .ref sa, .ref lk, .ref lq, .ref lz, .int lg, .int un, .int tm, .ref rb, .ref rn, .ref rt, .ref rk, .int kr, .ref cb, .ref cm, .ref cu, .ref ck, .int kc, .int se, .int tr, .ref mk, .ref nt, .ref kp, .ref iq, .int ka, .int wr])), (ea, .inl (G.2.1, 61, .inl em)), (sa, .inl (G.2.1, 61, .inl sk))]) (wr := [(th, .inl (G.2.1, 61, .inl (tB m)))]) X hw (c_X8_phaseOf l G mo th ea sa lk lq lz rb rn rt rk cb cm cu ck mk nt kp iq lg un tm kr kc se tr ka wr em sk k k2 hk hk2) (C := RX8) gX8_closure_X8_phaseOf (q0 := 0) rfl rfl rfl ⟨rfl, rfl⟩ (by decide +kernel) ⟨by decide, by decide⟩ rfl hl.1 rfl (Nat.le_of_ble_eq_true rfl) dX8_closure_47 ⟨by decide, by decide⟩ [0, 2, 3] [1] rfl rfl rfl rfl (by decide) (fun r w1 H locs hp hw => ?_)
              obtain ⟨rfl, rfl⟩ := hp
              have hw := hw.sub (ws' := [(mo, .inr (5, [.ref th, .ref ea, .ref sa, .ref lk, .ref lq, .ref lz, .int lg, .int un, .int tm, .ref rb, .ref rn, .ref rt, .ref rk, .int kr, .ref cb, .ref cm, .ref cu, .ref ck, .int kc, .int se, .int tr, .ref mk, .ref nt, .ref kp, .ref iq, .int ka, .int wr])), (th, .inl (G.2.1, 61, .inl (tB m))), (ea, .inl (G.2.1, 61, .inl em)), (sa, .inl (G.2.1, 61, .inl sk))]) [1, 0, 2, 3] rfl rfl
              refine W.eq (g2 := F0 mt 50 ls [.int (phv sk em k k2)]) rfl ?_
              refine lv_aload_n hx hb dX8_closure_50 rfl (lv_at hl 0 rfl) ?_
              refine lv_iload_n hx hb dX8_closure_51 rfl (lv_at hl 2 rfl) ?_
              refine lv_iload_n hx hb dX8_closure_52 rfl (lv_at hl 3 rfl) ?_
              refine xcV (n := 2) (As := [.int (nI k2), .int (nI k3)]) (rest := [.int (phv sk em k k2)]) (wc := [(mo, .inr (5, [.ref th, .ref ea, .ref sa, .ref lk, .ref lq, .ref lz, .int lg, .int un, .int tm, .ref rb, .ref rn, .ref rt, .ref rk, .int kr, .ref cb, .ref cm, .ref cu, .ref ck, .int kc, .int se, .int tr, .ref mk, .ref nt, .ref kp, .ref iq, .int ka, .int wr])), (ea, .inl (G.2.1, 61, .inl em)), (sa, .inl (G.2.1, 61, .inl sk))]) (wr := [(th, .inl (G.2.1, 61, .inl (tB m)))]) X hw (c_X8_phaseOf l G mo th ea sa lk lq lz rb rn rt rk cb cm cu ck mk nt kp iq lg un tm kr kc se tr ka wr em sk k2 k3 hk2 hk3) (C := RX8) gX8_closure_X8_phaseOf (q0 := 0) rfl rfl rfl ⟨rfl, rfl⟩ (by decide +kernel) ⟨by decide, by decide⟩ rfl hl.1 rfl (Nat.le_of_ble_eq_true rfl) dX8_closure_53 ⟨by decide, by decide⟩ [0, 2, 3] [1] rfl rfl rfl rfl (by decide) (fun r w1 H locs hp hw => ?_)
              obtain ⟨rfl, rfl⟩ := hp
              have hw := hw.sub (ws' := [(mo, .inr (5, [.ref th, .ref ea, .ref sa, .ref lk, .ref lq, .ref lz, .int lg, .int un, .int tm, .ref rb, .ref rn, .ref rt, .ref rk, .int kr, .ref cb, .ref cm, .ref cu, .ref ck, .int kc, .int se, .int tr, .ref mk, .ref nt, .ref kp, .ref iq, .int ka, .int wr])), (th, .inl (G.2.1, 61, .inl (tB m))), (ea, .inl (G.2.1, 61, .inl em)), (sa, .inl (G.2.1, 61, .inl sk))]) [1, 0, 2, 3] rfl rfl
              refine W.eq (g2 := F0 mt 56 ls [.int (phv sk em k2 k3), .int (phv sk em k k2)]) rfl ?_
              refine lv_iadd hx hb dX8_closure_56 ?_
              refine lv_aload_n hx hb dX8_closure_57 rfl (lv_at hl 0 rfl) ?_
              refine lv_iload_n hx hb dX8_closure_58 rfl (lv_at hl 3 rfl) ?_
              refine lv_iload_n hx hb dX8_closure_59 rfl (lv_at hl 1 rfl) ?_
              refine xcV (n := 2) (As := [.int (nI k3), .int (nI k)]) (rest := [.int ((phv sk em k k2) + (phv sk em k2 k3))]) (wc := [(mo, .inr (5, [.ref th, .ref ea, .ref sa, .ref lk, .ref lq, .ref lz, .int lg, .int un, .int tm, .ref rb, .ref rn, .ref rt, .ref rk, .int kr, .ref cb, .ref cm, .ref cu, .ref ck, .int kc, .int se, .int tr, .ref mk, .ref nt, .ref kp, .ref iq, .int ka, .int wr])), (ea, .inl (G.2.1, 61, .inl em)), (sa, .inl (G.2.1, 61, .inl sk))]) (wr := [(th, .inl (G.2.1, 61, .inl (tB m)))]) X hw (c_X8_phaseOf l G mo th ea sa lk lq lz rb rn rt rk cb cm cu ck mk nt kp iq lg un tm kr kc se tr ka wr em sk k3 k hk3 hk) (C := RX8) gX8_closure_X8_phaseOf (q0 := 0) rfl rfl rfl ⟨rfl, rfl⟩ (by decide +kernel) ⟨by decide, by decide⟩ rfl hl.1 rfl (Nat.le_of_ble_eq_true rfl) dX8_closure_60 ⟨by decide, by decide⟩ [0, 2, 3] [1] rfl rfl rfl rfl (by decide) (fun r w1 H locs hp hw => ?_)
              obtain ⟨rfl, rfl⟩ := hp
              have hw := hw.sub (ws' := [(mo, .inr (5, [.ref th, .ref ea, .ref sa, .ref lk, .ref lq, .ref lz, .int lg, .int un, .int tm, .ref rb, .ref rn, .ref rt, .ref rk, .int kr, .ref cb, .ref cm, .ref cu, .ref ck, .int kc, .int se, .int tr, .ref mk, .ref nt, .ref kp, .ref iq, .int ka, .int wr])), (th, .inl (G.2.1, 61, .inl (tB m))), (ea, .inl (G.2.1, 61, .inl em)), (sa, .inl (G.2.1, 61, .inl sk))]) [1, 0, 2, 3] rfl rfl
              refine W.eq (g2 := F0 mt 63 ls [.int (phv sk em k3 k), .int ((phv sk em k k2) + (phv sk em k2 k3))]) rfl ?_
              refine lv_iadd hx hb dX8_closure_63 ?_
              refine xcP (n := 1) (As := [.int (((phv sk em k k2) + (phv sk em k2 k3)) + (phv sk em k3 k))]) (rest := []) X hw (c_X8_over l G (((phv sk em k k2) + (phv sk em k2 k3)) + (phv sk em k3 k)) ) gX8_closure_X8_over rfl ⟨rfl, rfl⟩ (by decide +kernel) ⟨by decide, by decide⟩ rfl hl.1 rfl (Nat.le_of_ble_eq_true rfl) dX8_closure_64 ⟨by decide, by decide⟩ (fun r w1 H locs hp hw => ?_)
              obtain rfl := hp
              refine W.eq (g2 := F0 mt 67 ls [.int (fm (((phv sk em k k2) + (phv sk em k2 k3)) + (phv sk em k3 k)) 360)]) rfl ?_
              refine hret _ _ _ _ _ _ dX8_closure_67 hw ?_
              exact ⟨congrArg (fun z => some (Value.int z)) (by simp [clR, hs, hs2, hs3, c28, c33, c38, hck, hck2, hck3]), rfl⟩
            · refine lv_bipush (v := (-5)) hx hb dX8_closure_41 (by decide) ?_
              refine hret _ _ _ _ _ _ dX8_closure_43 hw ?_
              exact ⟨congrArg (fun z => some (Value.int z)) (by simp_all [clR]), rfl⟩
      · have hs3 := bi_f c21
        refine lv_iconst (v := (-1)) hx hb dX8_closure_24 (by decide) ?_
        refine hret _ _ _ _ _ _ dX8_closure_25 hw ?_
        exact ⟨congrArg (fun z => some (Value.int z)) (by unfold clR; rw [if_neg (by first | (rw [hs]; simp; done) | (rw [hs2]; simp; done) | (rw [hs3]; simp; done))]), rfl⟩

set_option maxHeartbeats 4000000 in
set_option maxRecDepth 100000 in
theorem c_X8_left (l : Launch) (G : GG) (mo : Nat) (th : Nat) (ea : Nat) (sa : Nat) (lk : Nat) (lq : Nat) (lz : Nat) (rb : Nat) (rn : Nat) (rt : Nat) (rk : Nat) (cb : Nat) (cm : Nat) (cu : Nat) (ck : Nat) (mk : Nat) (nt : Nat) (kp : Nat) (iq : Nat) (lg : Int32) (un : Int32) (tm : Int32) (kr : Int32) (kc : Int32) (se : Int32) (tr : Int32) (ka : Int32) (wr : Int32) (m : Nat) (x : Int32) (hm : m < 2 ^ 61) : CT l G yX8_left wsX8_left ({ frames := 2, cells := 0, slots := 0, locals := 46 } : Room) [.ref mo, .int x] [(mo, .inr (5, [.ref th, .ref ea, .ref sa, .ref lk, .ref lq, .ref lz, .int lg, .int un, .int tm, .ref rb, .ref rn, .ref rt, .ref rk, .int kr, .ref cb, .ref cm, .ref cu, .ref ck, .int kc, .int se, .int tr, .ref mk, .ref nt, .ref kp, .ref iq, .int ka, .int wr])), (th, .inl (G.2.1, 61, .inl (tB m)))] (fun r w => r = some (.int (leftR m x)) ∧ w = [(mo, .inr (5, [.ref th, .ref ea, .ref sa, .ref lk, .ref lq, .ref lz, .int lg, .int un, .int tm, .ref rb, .ref rn, .ref rt, .ref rk, .int kr, .ref cb, .ref cm, .ref cu, .ref ck, .int kc, .int se, .int tr, .ref mk, .ref nt, .ref kp, .ref iq, .int ka, .int wr])), (th, .inl (G.2.1, 61, .inl (tB m)))]) 0 0 := by
  refine ct_i (cc := cX8_left) (maxL := 2) (by decide +kernel) rfl (Nat.le_of_ble_eq_true rfl) ?_
  intro p e s mt below meth c A Q X hw hret ls hl
  obtain ⟨hx, hb, -⟩ := id X
  have hl : lv_has ls 2 [(0, .ref mo), (1, .int x)] := hl
  refine lv_aload_n hx hb dX8_left_0 rfl (lv_at hl 0 rfl) ?_
  refine lv_iload_n hx hb dX8_left_1 rfl (lv_at hl 1 rfl) ?_
  refine xcV (n := 1) (As := [.int x]) (rest := []) (wc := [(mo, .inr (5, [.ref th, .ref ea, .ref sa, .ref lk, .ref lq, .ref lz, .int lg, .int un, .int tm, .ref rb, .ref rn, .ref rt, .ref rk, .int kr, .ref cb, .ref cm, .ref cu, .ref ck, .int kc, .int se, .int tr, .ref mk, .ref nt, .ref kp, .ref iq, .int ka, .int wr])), (th, .inl (G.2.1, 61, .inl (tB m)))]) (wr := []) X hw (c_X8_isDish l G mo th ea sa lk lq lz rb rn rt rk cb cm cu ck mk nt kp iq lg un tm kr kc se tr ka wr m x ) (C := RX8) gX8_left_X8_isDish (q0 := 0) rfl rfl rfl ⟨rfl, rfl⟩ (by decide +kernel) ⟨by decide, by decide⟩ rfl hl.1 rfl (Nat.le_of_ble_eq_true rfl) dX8_left_2 ⟨by decide, by decide⟩ [0, 1] [] rfl rfl rfl rfl (by decide) (fun r w1 H locs hp hw => ?_)
  obtain ⟨rfl, rfl⟩ := hp
  have hw := hw.sub (ws' := [(mo, .inr (5, [.ref th, .ref ea, .ref sa, .ref lk, .ref lq, .ref lz, .int lg, .int un, .int tm, .ref rb, .ref rn, .ref rt, .ref rk, .int kr, .ref cb, .ref cm, .ref cu, .ref ck, .int kc, .int se, .int tr, .ref mk, .ref nt, .ref kp, .ref iq, .int ka, .int wr])), (th, .inl (G.2.1, 61, .inl (tB m)))]) [0, 1] rfl rfl
  refine W.eq (g2 := F0 mt 5 ls [.int (bi (stn m x))]) rfl ?_
  refine lv_if_eq (tgt := 16) hx hb dX8_left_5 (by decide) (fun c5 => ?_) (fun c5 => ?_)
  · have hs := bi_f c5
    refine lv_iconst (v := (-1)) hx hb dX8_left_16 (by decide) ?_
    refine hret _ _ _ _ _ _ dX8_left_17 hw ?_
    exact ⟨congrArg (fun z => some (Value.int z)) (by simp [leftR, hs]), rfl⟩
  · have hs := bi_t c5
    refine lv_aload_n hx hb dX8_left_8 rfl (lv_at hl 0 rfl) ?_
    refine lv_iload_n hx hb dX8_left_9 rfl (lv_at hl 1 rfl) ?_
    refine xcV (n := 1) (As := [.int x]) (rest := []) (wc := [(mo, .inr (5, [.ref th, .ref ea, .ref sa, .ref lk, .ref lq, .ref lz, .int lg, .int un, .int tm, .ref rb, .ref rn, .ref rt, .ref rk, .int kr, .ref cb, .ref cm, .ref cu, .ref ck, .int kc, .int se, .int tr, .ref mk, .ref nt, .ref kp, .ref iq, .int ka, .int wr])), (th, .inl (G.2.1, 61, .inl (tB m)))]) (wr := []) X hw (c_X8_reachBut l G mo th ea sa lk lq lz rb rn rt rk cb cm cu ck mk nt kp iq lg un tm kr kc se tr ka wr m x hm) (C := RX8) gX8_left_X8_reachBut (q0 := 0) rfl rfl rfl ⟨rfl, rfl⟩ (by decide +kernel) ⟨by decide, by decide⟩ rfl hl.1 rfl (Nat.le_of_ble_eq_true rfl) dX8_left_10 ⟨by decide, by decide⟩ [0, 1] [] rfl rfl rfl rfl (by decide) (fun r w1 H locs hp hw => ?_)
    obtain ⟨rfl, rfl⟩ := hp
    have hw := hw.sub (ws' := [(mo, .inr (5, [.ref th, .ref ea, .ref sa, .ref lk, .ref lq, .ref lz, .int lg, .int un, .int tm, .ref rb, .ref rn, .ref rt, .ref rk, .int kr, .ref cb, .ref cm, .ref cu, .ref ck, .int kc, .int se, .int tr, .ref mk, .ref nt, .ref kp, .ref iq, .int ka, .int wr])), (th, .inl (G.2.1, 61, .inl (tB m)))]) [0, 1] rfl rfl
    refine W.eq (g2 := F0 mt 13 ls [.int (nI (reN (woN m (bitO x))))]) rfl ?_
    refine lv_goto (tgt := 17) hx hb dX8_left_13 (by decide) ?_
    refine hret _ _ _ _ _ _ dX8_left_17 hw ?_
    exact ⟨congrArg (fun z => some (Value.int z)) (by simp [leftR, hs]), rfl⟩

set_option maxHeartbeats 4000000 in
set_option maxRecDepth 100000 in
theorem c_X8_aheadOf (l : Launch) (G : GG) (mo : Nat) (th : Nat) (ea : Nat) (sa : Nat) (lk : Nat) (lq : Nat) (lz : Nat) (rb : Nat) (rn : Nat) (rt : Nat) (rk : Nat) (cb : Nat) (cm : Nat) (cu : Nat) (ck : Nat) (mk : Nat) (nt : Nat) (kp : Nat) (iq : Nat) (lg : Int32) (un : Int32) (tm : Int32) (kr : Int32) (kc : Int32) (se : Int32) (tr : Int32) (ka : Int32) (wr : Int32) (m : Nat) (t : Nat) (hm : m < 2 ^ 61) (ht : t ≤ 60) : CT l G yX8_aheadOf wsX8_aheadOf ({ frames := 2, cells := 0, slots := 0, locals := 46 } : Room) [.ref mo, .int (nI t)] [(mo, .inr (5, [.ref th, .ref ea, .ref sa, .ref lk, .ref lq, .ref lz, .int lg, .int un, .int tm, .ref rb, .ref rn, .ref rt, .ref rk, .int kr, .ref cb, .ref cm, .ref cu, .ref ck, .int kc, .int se, .int tr, .ref mk, .ref nt, .ref kp, .ref iq, .int ka, .int wr])), (th, .inl (G.2.1, 61, .inl (tB m)))] (fun r w => r = some (.int (nI (ahN m t))) ∧ w = [(mo, .inr (5, [.ref th, .ref ea, .ref sa, .ref lk, .ref lq, .ref lz, .int lg, .int un, .int tm, .ref rb, .ref rn, .ref rt, .ref rk, .int kr, .ref cb, .ref cm, .ref cu, .ref ck, .int kc, .int se, .int tr, .ref mk, .ref nt, .ref kp, .ref iq, .int ka, .int wr])), (th, .inl (G.2.1, 61, .inl (tB m)))]) 0 0 := by
  refine ct_i (cc := cX8_aheadOf) (maxL := 6) (by decide +kernel) rfl (Nat.le_of_ble_eq_true rfl) ?_
  intro p e s mt below meth c A Q X hw hret ls hl
  obtain ⟨hx, hb, -⟩ := id X
  have hl : lv_has ls 6 [(0, .ref mo), (1, .int (nI t))] := hl
  refine lv_iconst (v := 0) hx hb dX8_aheadOf_0 (by decide) ?_
  refine x_cvi (y := nI 0) (by rfl) ?_
  refine lv_istore_n (lv' := [(2, .int (nI 0)), (0, .ref mo), (1, .int (nI t))]) hx hb dX8_aheadOf_1 rfl hl (by decide) rfl (fun ls hl => ?_)
  refine lv_aload_n hx hb dX8_aheadOf_2 rfl (lv_at hl 1 rfl) ?_
  refine lv_iload_n hx hb dX8_aheadOf_3 rfl (lv_at hl 2 rfl) ?_
  refine xcV (n := 1) (As := [.int (nI t)]) (rest := []) (wc := [(mo, .inr (5, [.ref th, .ref ea, .ref sa, .ref lk, .ref lq, .ref lz, .int lg, .int un, .int tm, .ref rb, .ref rn, .ref rt, .ref rk, .int kr, .ref cb, .ref cm, .ref cu, .ref ck, .int kc, .int se, .int tr, .ref mk, .ref nt, .ref kp, .ref iq, .int ka, .int wr])), (th, .inl (G.2.1, 61, .inl (tB m)))]) (wr := []) X hw (c_X8_reachBut l G mo th ea sa lk lq lz rb rn rt rk cb cm cu ck mk nt kp iq lg un tm kr kc se tr ka wr m (nI t) hm) (C := RX8) gX8_aheadOf_X8_reachBut (q0 := 0) rfl rfl rfl ⟨rfl, rfl⟩ (by decide +kernel) ⟨by decide, by decide⟩ rfl hl.1 rfl (Nat.le_of_ble_eq_true rfl) dX8_aheadOf_4 ⟨by decide, by decide⟩ [0, 1] [] rfl rfl rfl rfl (by decide) (fun r w1 H locs hp hw => ?_)
  obtain ⟨rfl, rfl⟩ := hp
  have hw := hw.sub (ws' := [(mo, .inr (5, [.ref th, .ref ea, .ref sa, .ref lk, .ref lq, .ref lz, .int lg, .int un, .int tm, .ref rb, .ref rn, .ref rt, .ref rk, .int kr, .ref cb, .ref cm, .ref cu, .ref ck, .int kc, .int se, .int tr, .ref mk, .ref nt, .ref kp, .ref iq, .int ka, .int wr])), (th, .inl (G.2.1, 61, .inl (tB m)))]) [0, 1] rfl rfl
  refine W.eq (g2 := F0 mt 7 ls [.int (nI (reN (woN m (bitO (nI t)))))]) rfl ?_
  refine x_cvi (y := nI (rwN m t)) (by rw [rwN_eq ht]) ?_
  refine lv_istore_n (lv' := [(3, .int (nI (rwN m t))), (2, .int (nI 0)), (0, .ref mo), (1, .int (nI t))]) hx hb dX8_aheadOf_7 rfl hl (by decide) rfl (fun ls hl => ?_)
  refine lv_iconst (v := 0) hx hb dX8_aheadOf_8 (by decide) ?_
  refine x_cvi (y := nI 0) (by rfl) ?_
  refine lv_istore (lv' := [(4, .int (nI 0)), (3, .int (nI (rwN m t))), (2, .int (nI 0)), (0, .ref mo), (1, .int (nI t))]) hx hb dX8_aheadOf_9 hl (by decide) rfl (fun ls hl => ?_)
  have lp11 : ∀ (fu : Nat) (q : Nat) (a : Nat) (H : Heap) (locs : List Loc) (ls : Array Slot), 61 - q < fu → (q ≤ 61) → (a = fb_ct (ahP m t) q) → WS G A s.heap H locs [(mo, .inr (5, [.ref th, .ref ea, .ref sa, .ref lk, .ref lq, .ref lz, .int lg, .int un, .int tm, .ref rb, .ref rn, .ref rt, .ref rk, .int kr, .ref cb, .ref cm, .ref cu, .ref ck, .int kc, .int se, .int tr, .ref mk, .ref nt, .ref kp, .ref iq, .int ka, .int wr])), (th, .inl (G.2.1, 61, .inl (tB m)))] → lv_has ls 6 [(0, .ref mo), (1, .int (nI t)), (2, .int (nI a)), (3, .int (nI (rwN m t))), (4, .int (nI q))] → W p l e ({ frames := 2, cells := 0, slots := 0, locals := 46 } : Room) s mt ([.ref mo, .int (nI t)] : List Value).toArray below meth c H locs 0 0 Q (F0 mt 11 ls []) := by
    intro fu
    induction fu with
    | zero =>
      intro q a H locs ls hmu
      exact absurd hmu (Nat.not_lt_zero _)
    | succ fu ih11 =>
      intro q a H locs ls hmu11 hq ha hw hl
      refine lv_iload hx hb dX8_aheadOf_11 (lv_at hl 4 rfl) ?_
      refine lv_bipush (v := 60) hx hb dX8_aheadOf_13 (by decide) ?_
      refine lv_icmp_gt (tgt := 75) hx hb dX8_aheadOf_15 (by decide) (fun c15 => ?_) (fun c15 => ?_)
      · have hk2 : 60 < q := i_lt (by decide) (by omega) c15
        refine lv_iload_n hx hb dX8_aheadOf_75 rfl (lv_at hl 2 rfl) ?_
        refine hret _ _ _ _ _ _ dX8_aheadOf_76 hw ?_
        exact ⟨congrArg (fun z => some (Value.int z)) (by rw [ha, show q = 61 by omega]; rfl), rfl⟩
      · have hk2 : q ≤ 60 := i_nlt (by decide) (by omega) c15
        refine lv_aload_n hx hb dX8_aheadOf_18 rfl (lv_at hl 0 rfl) ?_
        refine xg X hw (C := RX8) (T := TX8) (N := 27) (by decide +kernel) 0 rfl rfl 0 (by decide) rfl (by decide +kernel) rfl dX8_aheadOf_19 ?_
        refine lv_iload hx hb dX8_aheadOf_22 (lv_at hl 4 rfl) ?_
        refine xia X hw 1 rfl (j := q) (rfl) (by omega) (by decide) dX8_aheadOf_24 ?_
        refine lv_iconst (v := 1) hx hb dX8_aheadOf_25 (by decide) ?_
        refine lv_icmp_ne (tgt := 69) hx hb dX8_aheadOf_26 (by decide) (fun c26 => ?_) (fun c26 => ?_)
        · have hbt := tB_n c26
          refine lv_iinc (v := nI (q + 1)) (lv' := [(4, .int (nI (q + 1))), (0, .ref mo), (1, .int (nI t)), (2, .int (nI a)), (3, .int (nI (rwN m t)))]) hx hb dX8_aheadOf_69 hl (k := 4) rfl (by exact nI_1 _) (by decide) rfl (fun ls hl => ?_)
          refine lv_goto (tgt := 11) hx hb dX8_aheadOf_72 (by decide) ?_
          exact ih11 (q + 1) a _ _ _ (by omega) (by omega) (by rw [fb_ct_succ, ← ha]; first | (simp [ahP, hbt]; done) | (simp [ahP, hqt]; done)) hw (lv_sub hl [1, 2, 3, 4, 0] rfl)
        · have hbt := tB_1 c26
          refine lv_iload hx hb dX8_aheadOf_29 (lv_at hl 4 rfl) ?_
          refine lv_iload_n hx hb dX8_aheadOf_31 rfl (lv_at hl 1 rfl) ?_
          refine lv_icmp_eq (tgt := 69) hx hb dX8_aheadOf_32 (by decide) (fun c32 => ?_) (fun c32 => ?_)
          · have hqt : q = t := i_eq (by omega) (by omega) c32
            refine lv_iinc (v := nI (q + 1)) (lv' := [(4, .int (nI (q + 1))), (0, .ref mo), (1, .int (nI t)), (2, .int (nI a)), (3, .int (nI (rwN m t)))]) hx hb dX8_aheadOf_69 hl (k := 4) rfl (by exact nI_1 _) (by decide) rfl (fun ls hl => ?_)
            refine lv_goto (tgt := 11) hx hb dX8_aheadOf_72 (by decide) ?_
            exact ih11 (q + 1) a _ _ _ (by omega) (by omega) (by rw [fb_ct_succ, ← ha]; first | (simp [ahP, hbt]; done) | (simp [ahP, hqt]; done)) hw (lv_sub hl [1, 2, 3, 4, 0] rfl)
          · have hqt : ¬ q = t := i_ne c32
            refine lv_aload_n hx hb dX8_aheadOf_35 rfl (lv_at hl 0 rfl) ?_
            refine lv_iload hx hb dX8_aheadOf_36 (lv_at hl 4 rfl) ?_
            refine xcV (n := 1) (As := [.int (nI q)]) (rest := []) (wc := [(mo, .inr (5, [.ref th, .ref ea, .ref sa, .ref lk, .ref lq, .ref lz, .int lg, .int un, .int tm, .ref rb, .ref rn, .ref rt, .ref rk, .int kr, .ref cb, .ref cm, .ref cu, .ref ck, .int kc, .int se, .int tr, .ref mk, .ref nt, .ref kp, .ref iq, .int ka, .int wr])), (th, .inl (G.2.1, 61, .inl (tB m)))]) (wr := []) X hw (c_X8_reachBut l G mo th ea sa lk lq lz rb rn rt rk cb cm cu ck mk nt kp iq lg un tm kr kc se tr ka wr m (nI q) hm) (C := RX8) gX8_aheadOf_X8_reachBut (q0 := 0) rfl rfl rfl ⟨rfl, rfl⟩ (by decide +kernel) ⟨by decide, by decide⟩ rfl hl.1 rfl (Nat.le_of_ble_eq_true rfl) dX8_aheadOf_38 ⟨by decide, by decide⟩ [0, 1] [] rfl rfl rfl rfl (by decide) (fun r w1 H locs hp hw => ?_)
            obtain ⟨rfl, rfl⟩ := hp
            have hw := hw.sub (ws' := [(mo, .inr (5, [.ref th, .ref ea, .ref sa, .ref lk, .ref lq, .ref lz, .int lg, .int un, .int tm, .ref rb, .ref rn, .ref rt, .ref rk, .int kr, .ref cb, .ref cm, .ref cu, .ref ck, .int kc, .int se, .int tr, .ref mk, .ref nt, .ref kp, .ref iq, .int ka, .int wr])), (th, .inl (G.2.1, 61, .inl (tB m)))]) [0, 1] rfl rfl
            refine W.eq (g2 := F0 mt 41 ls [.int (nI (reN (woN m (bitO (nI q)))))]) rfl ?_
            refine x_cvi (y := nI (rwN m q)) (by rw [rwN_eq hk2]) ?_
            refine lv_istore (lv' := [(5, .int (nI (rwN m q))), (0, .ref mo), (1, .int (nI t)), (2, .int (nI a)), (3, .int (nI (rwN m t))), (4, .int (nI q))]) hx hb dX8_aheadOf_41 hl (by decide) rfl (fun ls hl => ?_)
            refine lv_iload_n hx hb dX8_aheadOf_43 rfl (lv_at hl 3 rfl) ?_
            refine lv_iload hx hb dX8_aheadOf_44 (lv_at hl 0 rfl) ?_
            refine lv_iload_n hx hb dX8_aheadOf_46 rfl (lv_at hl 4 rfl) ?_
            refine lv_icmp_lt (tgt := 62) hx hb dX8_aheadOf_47 (by decide) (fun c47 => ?_) (fun c47 => ?_)
            · have h47 : rwN m q < rwN m t := i_lt (by have := rwN_le m q; omega) (by have := rwN_le m t; omega) c47
              refine lv_iconst (v := 1) hx hb dX8_aheadOf_62 (by decide) ?_
              refine lv_goto (tgt := 67) hx hb dX8_aheadOf_63 (by decide) ?_
              refine lv_iadd hx hb dX8_aheadOf_67 ?_
              refine x_cvi (y := nI (fb_ct (ahP m t) (q + 1))) (by exact ct_b1 ha (by first | (simp [ahP, hbt, hqt, h47]; done) | (simp [ahP, hbt, hqt, h53, h59]; done))) ?_
              refine lv_istore_n (lv' := [(2, .int (nI (fb_ct (ahP m t) (q + 1)))), (5, .int (nI (rwN m q))), (0, .ref mo), (1, .int (nI t)), (3, .int (nI (rwN m t))), (4, .int (nI q))]) hx hb dX8_aheadOf_68 rfl hl (by decide) rfl (fun ls hl => ?_)
              refine lv_iinc (v := nI (q + 1)) (lv' := [(4, .int (nI (q + 1))), (2, .int (nI (fb_ct (ahP m t) (q + 1)))), (5, .int (nI (rwN m q))), (0, .ref mo), (1, .int (nI t)), (3, .int (nI (rwN m t)))]) hx hb dX8_aheadOf_69 hl (k := 5) rfl (by exact nI_1 _) (by decide) rfl (fun ls hl => ?_)
              refine lv_goto (tgt := 11) hx hb dX8_aheadOf_72 (by decide) ?_
              exact ih11 (q + 1) (fb_ct (ahP m t) (q + 1)) _ _ _ (by omega) (by omega) (rfl) hw (lv_sub hl [3, 4, 1, 5, 0] rfl)
            · have h47 : rwN m t ≤ rwN m q := i_nlt (by have := rwN_le m q; omega) (by have := rwN_le m t; omega) c47
              refine lv_iload hx hb dX8_aheadOf_50 (lv_at hl 0 rfl) ?_
              refine lv_iload_n hx hb dX8_aheadOf_52 rfl (lv_at hl 4 rfl) ?_
              refine lv_icmp_ne (tgt := 66) hx hb dX8_aheadOf_53 (by decide) (fun c53 => ?_) (fun c53 => ?_)
              · have h53 : ¬ rwN m q = rwN m t := i_ne c53
                refine lv_iconst (v := 0) hx hb dX8_aheadOf_66 (by decide) ?_
                refine lv_iadd hx hb dX8_aheadOf_67 ?_
                refine x_cvi (y := nI (fb_ct (ahP m t) (q + 1))) (by exact ct_b0 ha (by first | (have h9 : ¬ rwN m q = rwN m t := h53; have h8 : ¬ rwN m q < rwN m t := (by omega); simp [ahP, h8, h9]; done) | (have h8 : ¬ rwN m q < rwN m t := (by omega); have h9 : ¬ q < t := (by omega); simp [ahP, h8, h9]; done))) ?_
                refine lv_istore_n (lv' := [(2, .int (nI (fb_ct (ahP m t) (q + 1)))), (5, .int (nI (rwN m q))), (0, .ref mo), (1, .int (nI t)), (3, .int (nI (rwN m t))), (4, .int (nI q))]) hx hb dX8_aheadOf_68 rfl hl (by decide) rfl (fun ls hl => ?_)
                refine lv_iinc (v := nI (q + 1)) (lv' := [(4, .int (nI (q + 1))), (2, .int (nI (fb_ct (ahP m t) (q + 1)))), (5, .int (nI (rwN m q))), (0, .ref mo), (1, .int (nI t)), (3, .int (nI (rwN m t)))]) hx hb dX8_aheadOf_69 hl (k := 5) rfl (by exact nI_1 _) (by decide) rfl (fun ls hl => ?_)
                refine lv_goto (tgt := 11) hx hb dX8_aheadOf_72 (by decide) ?_
                exact ih11 (q + 1) (fb_ct (ahP m t) (q + 1)) _ _ _ (by omega) (by omega) (rfl) hw (lv_sub hl [3, 4, 1, 5, 0] rfl)
              · have h53 : rwN m q = rwN m t := i_eq (by have := rwN_le m q; omega) (by have := rwN_le m t; omega) c53
                refine lv_iload hx hb dX8_aheadOf_56 (lv_at hl 5 rfl) ?_
                refine lv_iload_n hx hb dX8_aheadOf_58 rfl (lv_at hl 2 rfl) ?_
                refine lv_icmp_ge (tgt := 66) hx hb dX8_aheadOf_59 (by decide) (fun c59 => ?_) (fun c59 => ?_)
                · have h59 : t ≤ q := i_le (by omega) (by omega) c59
                  refine lv_iconst (v := 0) hx hb dX8_aheadOf_66 (by decide) ?_
                  refine lv_iadd hx hb dX8_aheadOf_67 ?_
                  refine x_cvi (y := nI (fb_ct (ahP m t) (q + 1))) (by exact ct_b0 ha (by first | (have h9 : ¬ rwN m q = rwN m t := h53; have h8 : ¬ rwN m q < rwN m t := (by omega); simp [ahP, h8, h9]; done) | (have h8 : ¬ rwN m q < rwN m t := (by omega); have h9 : ¬ q < t := (by omega); simp [ahP, h8, h9]; done))) ?_
                  refine lv_istore_n (lv' := [(2, .int (nI (fb_ct (ahP m t) (q + 1)))), (5, .int (nI (rwN m q))), (0, .ref mo), (1, .int (nI t)), (3, .int (nI (rwN m t))), (4, .int (nI q))]) hx hb dX8_aheadOf_68 rfl hl (by decide) rfl (fun ls hl => ?_)
                  refine lv_iinc (v := nI (q + 1)) (lv' := [(4, .int (nI (q + 1))), (2, .int (nI (fb_ct (ahP m t) (q + 1)))), (5, .int (nI (rwN m q))), (0, .ref mo), (1, .int (nI t)), (3, .int (nI (rwN m t)))]) hx hb dX8_aheadOf_69 hl (k := 5) rfl (by exact nI_1 _) (by decide) rfl (fun ls hl => ?_)
                  refine lv_goto (tgt := 11) hx hb dX8_aheadOf_72 (by decide) ?_
                  exact ih11 (q + 1) (fb_ct (ahP m t) (q + 1)) _ _ _ (by omega) (by omega) (rfl) hw (lv_sub hl [3, 4, 1, 5, 0] rfl)
                · have h59 : q < t := i_nle (by omega) (by omega) c59
                  refine lv_iconst (v := 1) hx hb dX8_aheadOf_62 (by decide) ?_
                  refine lv_goto (tgt := 67) hx hb dX8_aheadOf_63 (by decide) ?_
                  refine lv_iadd hx hb dX8_aheadOf_67 ?_
                  refine x_cvi (y := nI (fb_ct (ahP m t) (q + 1))) (by exact ct_b1 ha (by first | (simp [ahP, hbt, hqt, h47]; done) | (simp [ahP, hbt, hqt, h53, h59]; done))) ?_
                  refine lv_istore_n (lv' := [(2, .int (nI (fb_ct (ahP m t) (q + 1)))), (5, .int (nI (rwN m q))), (0, .ref mo), (1, .int (nI t)), (3, .int (nI (rwN m t))), (4, .int (nI q))]) hx hb dX8_aheadOf_68 rfl hl (by decide) rfl (fun ls hl => ?_)
                  refine lv_iinc (v := nI (q + 1)) (lv' := [(4, .int (nI (q + 1))), (2, .int (nI (fb_ct (ahP m t) (q + 1)))), (5, .int (nI (rwN m q))), (0, .ref mo), (1, .int (nI t)), (3, .int (nI (rwN m t)))]) hx hb dX8_aheadOf_69 hl (k := 5) rfl (by exact nI_1 _) (by decide) rfl (fun ls hl => ?_)
                  refine lv_goto (tgt := 11) hx hb dX8_aheadOf_72 (by decide) ?_
                  exact ih11 (q + 1) (fb_ct (ahP m t) (q + 1)) _ _ _ (by omega) (by omega) (rfl) hw (lv_sub hl [3, 4, 1, 5, 0] rfl)
  exact lp11 _ 0 0 _ _ _ (Nat.lt_succ_self _) (by decide) (rfl) hw (lv_sub hl [3, 4, 2, 1, 0] rfl)

set_option maxHeartbeats 4000000 in
set_option maxRecDepth 100000 in
theorem c_X8_missed (l : Launch) (G : GG) (mo : Nat) (th : Nat) (ea : Nat) (sa : Nat) (lk : Nat) (lq : Nat) (lz : Nat) (rb : Nat) (rn : Nat) (rt : Nat) (rk : Nat) (cb : Nat) (cm : Nat) (cu : Nat) (ck : Nat) (mk : Nat) (nt : Nat) (kp : Nat) (iq : Nat) (lg : Int32) (un : Int32) (tm : Int32) (kr : Int32) (kc : Int32) (se : Int32) (tr : Int32) (ka : Int32) (wr : Int32) (m : Nat) (i : Int32) (hm : m < 2 ^ 61) : CT l G yX8_missed wsX8_missed ({ frames := 3, cells := 0, slots := 0, locals := 71 } : Room) [.ref mo, .int i] [(mo, .inr (5, [.ref th, .ref ea, .ref sa, .ref lk, .ref lq, .ref lz, .int lg, .int un, .int tm, .ref rb, .ref rn, .ref rt, .ref rk, .int kr, .ref cb, .ref cm, .ref cu, .ref ck, .int kc, .int se, .int tr, .ref mk, .ref nt, .ref kp, .ref iq, .int ka, .int wr])), (th, .inl (G.2.1, 61, .inl (tB m)))] (fun r w => r = some (.int (msA m i)) ∧ w = [(mo, .inr (5, [.ref th, .ref ea, .ref sa, .ref lk, .ref lq, .ref lz, .int lg, .int un, .int tm, .ref rb, .ref rn, .ref rt, .ref rk, .int kr, .ref cb, .ref cm, .ref cu, .ref ck, .int kc, .int se, .int tr, .ref mk, .ref nt, .ref kp, .ref iq, .int ka, .int wr])), (th, .inl (G.2.1, 61, .inl (tB m)))]) 0 0 := by
  refine ct_i (cc := cX8_missed) (maxL := 3) (by decide +kernel) rfl (Nat.le_of_ble_eq_true rfl) ?_
  intro p e s mt below meth c A Q X hw hret ls hl
  obtain ⟨hx, hb, -⟩ := id X
  have hl : lv_has ls 3 [(0, .ref mo), (1, .int i)] := hl
  refine lv_iconst (v := 0) hx hb dX8_missed_0 (by decide) ?_
  refine x_cvi (y := nI 0) (by rfl) ?_
  refine lv_istore_n (lv' := [(2, .int (nI 0)), (0, .ref mo), (1, .int i)]) hx hb dX8_missed_1 rfl hl (by decide) rfl (fun ls hl => ?_)
  have lp2 : ∀ (fu : Nat) (q : Nat) (H : Heap) (locs : List Loc) (ls : Array Slot), 61 - q < fu → (q ≤ 61) → (msF m i (61 - q) q = msA m i) → WS G A s.heap H locs [(mo, .inr (5, [.ref th, .ref ea, .ref sa, .ref lk, .ref lq, .ref lz, .int lg, .int un, .int tm, .ref rb, .ref rn, .ref rt, .ref rk, .int kr, .ref cb, .ref cm, .ref cu, .ref ck, .int kc, .int se, .int tr, .ref mk, .ref nt, .ref kp, .ref iq, .int ka, .int wr])), (th, .inl (G.2.1, 61, .inl (tB m)))] → lv_has ls 3 [(0, .ref mo), (1, .int i), (2, .int (nI q))] → W p l e ({ frames := 3, cells := 0, slots := 0, locals := 71 } : Room) s mt ([.ref mo, .int i] : List Value).toArray below meth c H locs 0 0 Q (F0 mt 2 ls []) := by
    intro fu
    induction fu with
    | zero =>
      intro q H locs ls hmu
      exact absurd hmu (Nat.not_lt_zero _)
    | succ fu ih2 =>
      intro q H locs ls hmu2 hq hR hw hl
      refine lv_iload_n hx hb dX8_missed_2 rfl (lv_at hl 2 rfl) ?_
      refine lv_bipush (v := 60) hx hb dX8_missed_3 (by decide) ?_
      refine lv_icmp_gt (tgt := 35) hx hb dX8_missed_5 (by decide) (fun c5 => ?_) (fun c5 => ?_)
      · have hk2 : 60 < q := i_lt (by decide) (by omega) c5
        refine lv_bipush (v := (-6)) hx hb dX8_missed_35 (by decide) ?_
        refine hret _ _ _ _ _ _ dX8_missed_37 hw ?_
        exact ⟨congrArg (fun z => some (Value.int z)) (by rw [show 61 - q = 0 by omega] at hR; exact hR), rfl⟩
      · have hk2 : q ≤ 60 := i_nlt (by decide) (by omega) c5
        refine lv_aload_n hx hb dX8_missed_8 rfl (lv_at hl 0 rfl) ?_
        refine xg X hw (C := RX8) (T := TX8) (N := 27) (by decide +kernel) 0 rfl rfl 0 (by decide) rfl (by decide +kernel) rfl dX8_missed_9 ?_
        refine lv_iload_n hx hb dX8_missed_12 rfl (lv_at hl 2 rfl) ?_
        refine xia X hw 1 rfl (j := q) (rfl) (by omega) (by decide) dX8_missed_13 ?_
        refine lv_iconst (v := 1) hx hb dX8_missed_14 (by decide) ?_
        refine lv_icmp_ne (tgt := 29) hx hb dX8_missed_15 (by decide) (fun c15 => ?_) (fun c15 => ?_)
        · have hbt := tB_n c15
          refine lv_iinc (v := nI (q + 1)) (lv' := [(2, .int (nI (q + 1))), (0, .ref mo), (1, .int i)]) hx hb dX8_missed_29 hl (k := 2) rfl (by exact nI_1 _) (by decide) rfl (fun ls hl => ?_)
          refine lv_goto (tgt := 2) hx hb dX8_missed_32 (by decide) ?_
          exact ih2 (q + 1) _ _ _ (by omega) (by omega) (by rw [show 61 - q = (61 - (q + 1)) + 1 by omega, msF_s, if_neg (by first | exact fun z => absurd z.1 (by rw [hbt]; decide) | exact fun z => c24 z.2)] at hR; exact hR) hw (lv_sub hl [1, 2, 0] rfl)
        · have hbt := tB_1 c15
          refine lv_aload_n hx hb dX8_missed_18 rfl (lv_at hl 0 rfl) ?_
          refine lv_iload_n hx hb dX8_missed_19 rfl (lv_at hl 2 rfl) ?_
          refine xcV (n := 1) (As := [.int (nI q)]) (rest := []) (wc := [(mo, .inr (5, [.ref th, .ref ea, .ref sa, .ref lk, .ref lq, .ref lz, .int lg, .int un, .int tm, .ref rb, .ref rn, .ref rt, .ref rk, .int kr, .ref cb, .ref cm, .ref cu, .ref ck, .int kc, .int se, .int tr, .ref mk, .ref nt, .ref kp, .ref iq, .int ka, .int wr])), (th, .inl (G.2.1, 61, .inl (tB m)))]) (wr := []) X hw (c_X8_aheadOf l G mo th ea sa lk lq lz rb rn rt rk cb cm cu ck mk nt kp iq lg un tm kr kc se tr ka wr m q hm hk2) (C := RX8) gX8_missed_X8_aheadOf (q0 := 0) rfl rfl rfl ⟨rfl, rfl⟩ (by decide +kernel) ⟨by decide, by decide⟩ rfl hl.1 rfl (Nat.le_of_ble_eq_true rfl) dX8_missed_20 ⟨by decide, by decide⟩ [0, 1] [] rfl rfl rfl rfl (by decide) (fun r w1 H locs hp hw => ?_)
          obtain ⟨rfl, rfl⟩ := hp
          have hw := hw.sub (ws' := [(mo, .inr (5, [.ref th, .ref ea, .ref sa, .ref lk, .ref lq, .ref lz, .int lg, .int un, .int tm, .ref rb, .ref rn, .ref rt, .ref rk, .int kr, .ref cb, .ref cm, .ref cu, .ref ck, .int kc, .int se, .int tr, .ref mk, .ref nt, .ref kp, .ref iq, .int ka, .int wr])), (th, .inl (G.2.1, 61, .inl (tB m)))]) [0, 1] rfl rfl
          refine W.eq (g2 := F0 mt 23 ls [.int (nI (ahN m q))]) rfl ?_
          refine lv_iload_n hx hb dX8_missed_23 rfl (lv_at hl 1 rfl) ?_
          refine lv_icmp_ne (tgt := 29) hx hb dX8_missed_24 (by decide) (fun c24 => ?_) (fun c24 => ?_)
          · refine lv_iinc (v := nI (q + 1)) (lv' := [(2, .int (nI (q + 1))), (0, .ref mo), (1, .int i)]) hx hb dX8_missed_29 hl (k := 2) rfl (by exact nI_1 _) (by decide) rfl (fun ls hl => ?_)
            refine lv_goto (tgt := 2) hx hb dX8_missed_32 (by decide) ?_
            exact ih2 (q + 1) _ _ _ (by omega) (by omega) (by rw [show 61 - q = (61 - (q + 1)) + 1 by omega, msF_s, if_neg (by first | exact fun z => absurd z.1 (by rw [hbt]; decide) | exact fun z => c24 z.2)] at hR; exact hR) hw (lv_sub hl [1, 2, 0] rfl)
          · refine lv_iload_n hx hb dX8_missed_27 rfl (lv_at hl 2 rfl) ?_
            refine hret _ _ _ _ _ _ dX8_missed_28 hw ?_
            exact ⟨congrArg (fun z => some (Value.int z)) (by rw [show 61 - q = (61 - (q + 1)) + 1 by omega, msF_s, if_pos ⟨hbt, c24⟩] at hR; exact hR), rfl⟩
  exact lp2 _ 0 _ _ _ (Nat.lt_succ_self _) (by decide) (rfl) hw (lv_sub hl [1, 2, 0] rfl)

set_option maxHeartbeats 4000000 in
set_option maxRecDepth 100000 in
theorem c_X8_sure (l : Launch) (G : GG) (mo : Nat) (th : Nat) (ea : Nat) (sa : Nat) (lk : Nat) (lq : Nat) (lz : Nat) (rb : Nat) (rn : Nat) (rt : Nat) (rk : Nat) (cb : Nat) (cm : Nat) (cu : Nat) (ck : Nat) (mk : Nat) (nt : Nat) (kp : Nat) (iq : Nat) (lg : Int32) (un : Int32) (tm : Int32) (kr : Int32) (kc : Int32) (se : Int32) (tr : Int32) (ka : Int32) (wr : Int32) (m : Nat) (hm : m < 2 ^ 61) : CT l G yX8_sure wsX8_sure ({ frames := 4, cells := 0, slots := 0, locals := 93 } : Room) [.ref mo] [(mo, .inr (5, [.ref th, .ref ea, .ref sa, .ref lk, .ref lq, .ref lz, .int lg, .int un, .int tm, .ref rb, .ref rn, .ref rt, .ref rk, .int kr, .ref cb, .ref cm, .ref cu, .ref ck, .int kc, .int se, .int tr, .ref mk, .ref nt, .ref kp, .ref iq, .int ka, .int wr])), (th, .inl (G.2.1, 61, .inl (tB m)))] (fun r w => r = some (.int (sureM m)) ∧ w = [(mo, .inr (5, [.ref th, .ref ea, .ref sa, .ref lk, .ref lq, .ref lz, .int lg, .int un, .int tm, .ref rb, .ref rn, .ref rt, .ref rk, .int kr, .ref cb, .ref cm, .ref cu, .ref ck, .int kc, .int se, .int tr, .ref mk, .ref nt, .ref kp, .ref iq, .int ka, .int wr])), (th, .inl (G.2.1, 61, .inl (tB m)))]) 0 0 := by
  refine ct_i (cc := cX8_sure) (maxL := 2) (by decide +kernel) rfl (Nat.le_of_ble_eq_true rfl) ?_
  intro p e s mt below meth c A Q X hw hret ls hl
  obtain ⟨hx, hb, -⟩ := id X
  have hl : lv_has ls 2 [(0, .ref mo)] := hl
  refine lv_aload_n hx hb dX8_sure_0 rfl (lv_at hl 0 rfl) ?_
  refine lv_iconst (v := 0) hx hb dX8_sure_1 (by decide) ?_
  refine xcV (n := 1) (As := [.int 0]) (rest := []) (wc := [(mo, .inr (5, [.ref th, .ref ea, .ref sa, .ref lk, .ref lq, .ref lz, .int lg, .int un, .int tm, .ref rb, .ref rn, .ref rt, .ref rk, .int kr, .ref cb, .ref cm, .ref cu, .ref ck, .int kc, .int se, .int tr, .ref mk, .ref nt, .ref kp, .ref iq, .int ka, .int wr])), (th, .inl (G.2.1, 61, .inl (tB m)))]) (wr := []) X hw (c_X8_missed l G mo th ea sa lk lq lz rb rn rt rk cb cm cu ck mk nt kp iq lg un tm kr kc se tr ka wr m 0 hm) (C := RX8) gX8_sure_X8_missed (q0 := 0) rfl rfl rfl ⟨rfl, rfl⟩ (by decide +kernel) ⟨by decide, by decide⟩ rfl hl.1 rfl (Nat.le_of_ble_eq_true rfl) dX8_sure_2 ⟨by decide, by decide⟩ [0, 1] [] rfl rfl rfl rfl (by decide) (fun r w1 H locs hp hw => ?_)
  obtain ⟨rfl, rfl⟩ := hp
  have hw := hw.sub (ws' := [(mo, .inr (5, [.ref th, .ref ea, .ref sa, .ref lk, .ref lq, .ref lz, .int lg, .int un, .int tm, .ref rb, .ref rn, .ref rt, .ref rk, .int kr, .ref cb, .ref cm, .ref cu, .ref ck, .int kc, .int se, .int tr, .ref mk, .ref nt, .ref kp, .ref iq, .int ka, .int wr])), (th, .inl (G.2.1, 61, .inl (tB m)))]) [0, 1] rfl rfl
  refine W.eq (g2 := F0 mt 5 ls [.int (msA m 0)]) rfl ?_
  refine lv_istore_n (lv' := [(1, .int (msA m 0)), (0, .ref mo)]) hx hb dX8_sure_5 rfl hl (by decide) rfl (fun ls hl => ?_)
  refine lv_iload_n hx hb dX8_sure_6 rfl (lv_at hl 0 rfl) ?_
  refine lv_if_ge (tgt := 14) hx hb dX8_sure_7 (by decide) (fun c7 => ?_) (fun c7 => ?_)
  · refine lv_aload_n hx hb dX8_sure_14 rfl (lv_at hl 1 rfl) ?_
    refine lv_iload_n hx hb dX8_sure_15 rfl (lv_at hl 0 rfl) ?_
    refine xcV (n := 1) (As := [.int (msA m 0)]) (rest := []) (wc := [(mo, .inr (5, [.ref th, .ref ea, .ref sa, .ref lk, .ref lq, .ref lz, .int lg, .int un, .int tm, .ref rb, .ref rn, .ref rt, .ref rk, .int kr, .ref cb, .ref cm, .ref cu, .ref ck, .int kc, .int se, .int tr, .ref mk, .ref nt, .ref kp, .ref iq, .int ka, .int wr])), (th, .inl (G.2.1, 61, .inl (tB m)))]) (wr := []) X hw (c_X8_reachBut l G mo th ea sa lk lq lz rb rn rt rk cb cm cu ck mk nt kp iq lg un tm kr kc se tr ka wr m (msA m 0) hm) (C := RX8) gX8_sure_X8_reachBut (q0 := 0) rfl rfl rfl ⟨rfl, rfl⟩ (by decide +kernel) ⟨by decide, by decide⟩ rfl hl.1 rfl (Nat.le_of_ble_eq_true rfl) dX8_sure_16 ⟨by decide, by decide⟩ [0, 1] [] rfl rfl rfl rfl (by decide) (fun r w1 H locs hp hw => ?_)
    obtain ⟨rfl, rfl⟩ := hp
    have hw := hw.sub (ws' := [(mo, .inr (5, [.ref th, .ref ea, .ref sa, .ref lk, .ref lq, .ref lz, .int lg, .int un, .int tm, .ref rb, .ref rn, .ref rt, .ref rk, .int kr, .ref cb, .ref cm, .ref cu, .ref ck, .int kc, .int se, .int tr, .ref mk, .ref nt, .ref kp, .ref iq, .int ka, .int wr])), (th, .inl (G.2.1, 61, .inl (tB m)))]) [0, 1] rfl rfl
    refine W.eq (g2 := F0 mt 19 ls [.int (nI (reN (woN m (bitO (msA m 0)))))]) rfl ?_
    refine hret _ _ _ _ _ _ dX8_sure_19 hw ?_
    exact ⟨congrArg (fun z => some (Value.int z)) (by unfold sureM; rw [if_neg (Int32.not_lt.mpr c7)]), rfl⟩
  · refine lv_iconst (v := 0) hx hb dX8_sure_10 (by decide) ?_
    refine lv_goto (tgt := 19) hx hb dX8_sure_11 (by decide) ?_
    refine hret _ _ _ _ _ _ dX8_sure_19 hw ?_
    exact ⟨congrArg (fun z => some (Value.int z)) (by unfold sureM; rw [if_pos (Int32.not_le.mp c7)]), rfl⟩

set_option maxHeartbeats 4000000 in
set_option maxRecDepth 100000 in
theorem c_X8_told (l : Launch) (G : GG) (mo : Nat) (th : Nat) (ea : Nat) (sa : Nat) (lk : Nat) (lq : Nat) (lz : Nat) (rb : Nat) (rn : Nat) (rt : Nat) (rk : Nat) (cb : Nat) (cm : Nat) (cu : Nat) (ck : Nat) (mk : Nat) (nt : Nat) (kp : Nat) (iq : Nat) (lg : Int32) (un : Int32) (tm : Int32) (kr : Int32) (kc : Int32) (se : Int32) (tr : Int32) (ka : Int32) (wr : Int32) (m : Nat) (em : Nat → Int32) (sk : Nat → Int32) (x : Int32)  : CT l G yX8_told wsX8_told ({ frames := 1, cells := 0, slots := 0, locals := 25 } : Room) [.ref mo, .int x] [(mo, .inr (5, [.ref th, .ref ea, .ref sa, .ref lk, .ref lq, .ref lz, .int lg, .int un, .int tm, .ref rb, .ref rn, .ref rt, .ref rk, .int kr, .ref cb, .ref cm, .ref cu, .ref ck, .int kc, .int se, .int tr, .ref mk, .ref nt, .ref kp, .ref iq, .int ka, .int wr])), (th, .inl (G.2.1, 61, .inl (tB m))), (ea, .inl (G.2.1, 61, .inl em)), (sa, .inl (G.2.1, 61, .inl sk))] (fun r w => r = some (.int (tdM m em sk lg se tr un kr kc tm x)) ∧ w = [(mo, .inr (5, [.ref th, .ref ea, .ref sa, .ref lk, .ref lq, .ref lz, .int lg, .int un, .int tm, .ref rb, .ref rn, .ref rt, .ref rk, .int kr, .ref cb, .ref cm, .ref cu, .ref ck, .int kc, .int se, .int tr, .ref mk, .ref nt, .ref kp, .ref iq, .int ka, .int wr])), (th, .inl (G.2.1, 61, .inl (tB m))), (ea, .inl (G.2.1, 61, .inl em)), (sa, .inl (G.2.1, 61, .inl sk))]) 0 0 := by
  refine ct_i (cc := cX8_told) (maxL := 2) (by decide +kernel) rfl (Nat.le_of_ble_eq_true rfl) ?_
  intro p e s mt below meth c A Q X hw hret ls hl
  obtain ⟨hx, hb, -⟩ := id X
  have hl : lv_has ls 2 [(0, .ref mo), (1, .int x)] := hl
  refine lv_iload_n hx hb dX8_told_0 rfl (lv_at hl 1 rfl) ?_
  refine lv_i2l (v := x.toInt64) hx hb dX8_told_1 (by rfl) ?_
  refine xc2 X (v := 100) (by decide +kernel) dX8_told_2 ?_
  refine xc2 X (v := 160) (by decide +kernel) dX8_told_5 ?_
  refine xcP (n := 3) (As := [.long x.toInt64, .long 100, .long 160]) (rest := []) X hw (c_X8_in l G x.toInt64 100 160 ) gX8_told_X8_in rfl ⟨rfl, rfl⟩ (by decide +kernel) ⟨by decide, by decide⟩ rfl hl.1 rfl (Nat.le_of_ble_eq_true rfl) dX8_told_8 ⟨by decide, by decide⟩ (fun r w1 H locs hp hw => ?_)
  obtain rfl := hp
  refine W.eq (g2 := F0 mt 11 ls [.int (bi (inJ x.toInt64 100 160))]) rfl ?_
  refine x_cvi (y := bi (inS (x - 100))) (by rw [inJ_e]) ?_
  refine lv_if_eq (tgt := 42) hx hb dX8_told_11 (by decide) (fun c11 => ?_) (fun c11 => ?_)
  · have hi := bi_f c11
    refine lv_iload_n hx hb dX8_told_42 rfl (lv_at hl 1 rfl) ?_
    refine lv_i2l (v := x.toInt64) hx hb dX8_told_43 (by rfl) ?_
    refine xc2 X (v := 201) (by decide +kernel) dX8_told_44 ?_
    refine xc2 X (v := 260) (by decide +kernel) dX8_told_47 ?_
    refine xcP (n := 3) (As := [.long x.toInt64, .long 201, .long 260]) (rest := []) X hw (c_X8_in l G x.toInt64 201 260 ) gX8_told_X8_in rfl ⟨rfl, rfl⟩ (by decide +kernel) ⟨by decide, by decide⟩ rfl hl.1 rfl (Nat.le_of_ble_eq_true rfl) dX8_told_50 ⟨by decide, by decide⟩ (fun r w1 H locs hp hw => ?_)
    obtain rfl := hp
    refine W.eq (g2 := F0 mt 53 ls [.int (bi (inJ x.toInt64 201 260))]) rfl ?_
    refine x_cvi (y := bi (inL (x - 200))) (by rw [inJ_k]) ?_
    refine lv_if_eq (tgt := 67) hx hb dX8_told_53 (by decide) (fun c53 => ?_) (fun c53 => ?_)
    · have hi2 := bi_f c53
      refine lv_iload_n hx hb dX8_told_67 rfl (lv_at hl 1 rfl) ?_
      by_cases ht68_0 : x = 0
      · refine lv_tableIn (tgt := 112) hx hb dX8_told_68 (by rw [ht68_0]; decide) (by rw [ht68_0]; decide) (off := 44) (by rw [ht68_0]; rfl) (by decide) ?_
        refine lv_aload_n hx hb dX8_told_112 rfl (lv_at hl 0 rfl) ?_
        refine xg X hw (C := RX8) (T := TX8) (N := 27) (by decide +kernel) 0 rfl rfl 6 (by decide) rfl (by decide +kernel) rfl dX8_told_113 ?_
        refine hret _ _ _ _ _ _ dX8_told_116 hw ?_
        exact ⟨congrArg (fun z => some (Value.int z)) (by unfold tdM; rw [if_neg (by rw [hi]; decide), if_neg (by rw [hi2]; decide), if_pos ht68_0]), rfl⟩
      by_cases ht68_1 : x = 1
      · refine lv_tableIn (tgt := 117) hx hb dX8_told_68 (by rw [ht68_1]; decide) (by rw [ht68_1]; decide) (off := 49) (by rw [ht68_1]; rfl) (by decide) ?_
        refine lv_aload_n hx hb dX8_told_117 rfl (lv_at hl 0 rfl) ?_
        refine xg X hw (C := RX8) (T := TX8) (N := 27) (by decide +kernel) 0 rfl rfl 19 (by decide) rfl (by decide +kernel) rfl dX8_told_118 ?_
        refine hret _ _ _ _ _ _ dX8_told_121 hw ?_
        exact ⟨congrArg (fun z => some (Value.int z)) (by unfold tdM; rw [if_neg (by rw [hi]; decide), if_neg (by rw [hi2]; decide), if_neg ht68_0, if_pos ht68_1]), rfl⟩
      by_cases ht68_2 : x = 2
      · refine lv_tableIn (tgt := 122) hx hb dX8_told_68 (by rw [ht68_2]; decide) (by rw [ht68_2]; decide) (off := 54) (by rw [ht68_2]; rfl) (by decide) ?_
        refine lv_aload_n hx hb dX8_told_122 rfl (lv_at hl 0 rfl) ?_
        refine xg X hw (C := RX8) (T := TX8) (N := 27) (by decide +kernel) 0 rfl rfl 20 (by decide) rfl (by decide +kernel) rfl dX8_told_123 ?_
        refine hret _ _ _ _ _ _ dX8_told_126 hw ?_
        exact ⟨congrArg (fun z => some (Value.int z)) (by unfold tdM; rw [if_neg (by rw [hi]; decide), if_neg (by rw [hi2]; decide), if_neg ht68_0, if_neg ht68_1, if_pos ht68_2]), rfl⟩
      by_cases ht68_3 : x = 3
      · refine lv_tableIn (tgt := 127) hx hb dX8_told_68 (by rw [ht68_3]; decide) (by rw [ht68_3]; decide) (off := 59) (by rw [ht68_3]; rfl) (by decide) ?_
        refine lv_aload_n hx hb dX8_told_127 rfl (lv_at hl 0 rfl) ?_
        refine xg X hw (C := RX8) (T := TX8) (N := 27) (by decide +kernel) 0 rfl rfl 7 (by decide) rfl (by decide +kernel) rfl dX8_told_128 ?_
        refine hret _ _ _ _ _ _ dX8_told_131 hw ?_
        exact ⟨congrArg (fun z => some (Value.int z)) (by unfold tdM; rw [if_neg (by rw [hi]; decide), if_neg (by rw [hi2]; decide), if_neg ht68_0, if_neg ht68_1, if_neg ht68_2, if_pos ht68_3]), rfl⟩
      by_cases ht68_4 : x = 4
      · refine lv_tableIn (tgt := 132) hx hb dX8_told_68 (by rw [ht68_4]; decide) (by rw [ht68_4]; decide) (off := 64) (by rw [ht68_4]; rfl) (by decide) ?_
        refine lv_aload_n hx hb dX8_told_132 rfl (lv_at hl 0 rfl) ?_
        refine xg X hw (C := RX8) (T := TX8) (N := 27) (by decide +kernel) 0 rfl rfl 13 (by decide) rfl (by decide +kernel) rfl dX8_told_133 ?_
        refine hret _ _ _ _ _ _ dX8_told_136 hw ?_
        exact ⟨congrArg (fun z => some (Value.int z)) (by unfold tdM; rw [if_neg (by rw [hi]; decide), if_neg (by rw [hi2]; decide), if_neg ht68_0, if_neg ht68_1, if_neg ht68_2, if_neg ht68_3, if_pos ht68_4]), rfl⟩
      by_cases ht68_5 : x = 5
      · refine lv_tableIn (tgt := 137) hx hb dX8_told_68 (by rw [ht68_5]; decide) (by rw [ht68_5]; decide) (off := 69) (by rw [ht68_5]; rfl) (by decide) ?_
        refine lv_aload_n hx hb dX8_told_137 rfl (lv_at hl 0 rfl) ?_
        refine xg X hw (C := RX8) (T := TX8) (N := 27) (by decide +kernel) 0 rfl rfl 18 (by decide) rfl (by decide +kernel) rfl dX8_told_138 ?_
        refine hret _ _ _ _ _ _ dX8_told_141 hw ?_
        exact ⟨congrArg (fun z => some (Value.int z)) (by unfold tdM; rw [if_neg (by rw [hi]; decide), if_neg (by rw [hi2]; decide), if_neg ht68_0, if_neg ht68_1, if_neg ht68_2, if_neg ht68_3, if_neg ht68_4, if_pos ht68_5]), rfl⟩
      by_cases ht68_6 : x = 6
      · refine lv_tableIn (tgt := 142) hx hb dX8_told_68 (by rw [ht68_6]; decide) (by rw [ht68_6]; decide) (off := 74) (by rw [ht68_6]; rfl) (by decide) ?_
        refine lv_aload_n hx hb dX8_told_142 rfl (lv_at hl 0 rfl) ?_
        refine xg X hw (C := RX8) (T := TX8) (N := 27) (by decide +kernel) 0 rfl rfl 8 (by decide) rfl (by decide +kernel) rfl dX8_told_143 ?_
        refine hret _ _ _ _ _ _ dX8_told_146 hw ?_
        exact ⟨congrArg (fun z => some (Value.int z)) (by unfold tdM; rw [if_neg (by rw [hi]; decide), if_neg (by rw [hi2]; decide), if_neg ht68_0, if_neg ht68_1, if_neg ht68_2, if_neg ht68_3, if_neg ht68_4, if_neg ht68_5, if_pos ht68_6]), rfl⟩
      refine lv_tableOut (tgt := 147) hx hb dX8_told_68 (tab_out7 x ht68_0 ht68_1 ht68_2 ht68_3 ht68_4 ht68_5 ht68_6) (by decide) ?_
      refine lv_bipush (v := (-2)) hx hb dX8_told_147 (by decide) ?_
      refine hret _ _ _ _ _ _ dX8_told_149 hw ?_
      exact ⟨congrArg (fun z => some (Value.int z)) (by unfold tdM; rw [if_neg (by rw [hi]; decide), if_neg (by rw [hi2]; decide), if_neg ht68_0, if_neg ht68_1, if_neg ht68_2, if_neg ht68_3, if_neg ht68_4, if_neg ht68_5, if_neg ht68_6]), rfl⟩
    · have hi2 := bi_t c53
      obtain ⟨j, hj1, hj, hxj⟩ := inL_of hi2
      refine lv_aload_n hx hb dX8_told_56 rfl (lv_at hl 0 rfl) ?_
      refine xg X hw (C := RX8) (T := TX8) (N := 27) (by decide +kernel) 0 rfl rfl 2 (by decide) rfl (by decide +kernel) rfl dX8_told_57 ?_
      refine lv_iload_n hx hb dX8_told_60 rfl (lv_at hl 1 rfl) ?_
      refine lv_sipush (v := 200) hx hb dX8_told_61 (by decide) ?_
      refine lv_isub hx hb dX8_told_64 ?_
      refine xia X hw 3 rfl (j := j) (hxj) (by omega) (by decide) dX8_told_65 ?_
      refine hret _ _ _ _ _ _ dX8_told_66 hw ?_
      exact ⟨congrArg (fun z => some (Value.int z)) (by unfold tdM; rw [if_neg (by rw [hi]; decide), if_pos hi2, hxj, cl_k hj]), rfl⟩
  · have hi := bi_t c11
    obtain ⟨j, hj, hxj⟩ := inS_of hi
    refine lv_aload_n hx hb dX8_told_14 rfl (lv_at hl 0 rfl) ?_
    refine xg X hw (C := RX8) (T := TX8) (N := 27) (by decide +kernel) 0 rfl rfl 0 (by decide) rfl (by decide +kernel) rfl dX8_told_15 ?_
    refine lv_iload_n hx hb dX8_told_18 rfl (lv_at hl 1 rfl) ?_
    refine lv_bipush (v := 100) hx hb dX8_told_19 (by decide) ?_
    refine lv_isub hx hb dX8_told_21 ?_
    refine xia X hw 1 rfl (j := j) (hxj) (by omega) (by decide) dX8_told_22 ?_
    refine lv_iconst (v := 1) hx hb dX8_told_23 (by decide) ?_
    refine lv_icmp_ne (tgt := 39) hx hb dX8_told_24 (by decide) (fun c24 => ?_) (fun c24 => ?_)
    · refine lv_bipush (v := (-6)) hx hb dX8_told_39 (by decide) ?_
      refine hret _ _ _ _ _ _ dX8_told_41 hw ?_
      exact ⟨congrArg (fun z => some (Value.int z)) (by unfold tdM; rw [if_pos hi, hxj, if_neg (by rw [stn_nI hj, tB_n c24]; decide)]), rfl⟩
    · refine lv_aload_n hx hb dX8_told_27 rfl (lv_at hl 0 rfl) ?_
      refine xg X hw (C := RX8) (T := TX8) (N := 27) (by decide +kernel) 0 rfl rfl 1 (by decide) rfl (by decide +kernel) rfl dX8_told_28 ?_
      refine lv_iload_n hx hb dX8_told_31 rfl (lv_at hl 1 rfl) ?_
      refine lv_bipush (v := 100) hx hb dX8_told_32 (by decide) ?_
      refine lv_isub hx hb dX8_told_34 ?_
      refine xia X hw 2 rfl (j := j) (hxj) (by omega) (by decide) dX8_told_35 ?_
      refine lv_goto (tgt := 41) hx hb dX8_told_36 (by decide) ?_
      refine hret _ _ _ _ _ _ dX8_told_41 hw ?_
      exact ⟨congrArg (fun z => some (Value.int z)) (by unfold tdM; rw [if_pos hi, hxj, if_pos (by rw [stn_nI hj]; exact tB_1 c24), cl_k hj]), rfl⟩
