set_option maxHeartbeats 4000000 in
set_option maxRecDepth 100000 in
theorem c_X7_error (l : Launch) (G : GG) (xo : Nat) (i1 : Nat) (i2 : Nat) (ru : Nat) (co : Nat) (ik : Int32) (un : Int32) (tp : Int32) (d : Nat) (e0 : Nat) (k0 : Nat) (m : Nat) (er : Nat → Int32) (sk : Nat → Int32) (g : Nat) (s0 : Nat) (b0 : Nat) (st : Nat → Int32) (be : Nat → Int32) (nx : Nat) (cn : Nat) (x : Int32) (v : Int32) (hm : m < 2 ^ 61) (hn : nx < 16) (hc : cn ≤ 16) : CT l G yX7_error wsX7_error ({ frames := 4, cells := 0, slots := 0, locals := 87 } : Room) [.ref xo, .int x, .int v] [(xo, .inr (4, [.ref d, .ref i1, .ref i2, .ref g, .ref ru, .ref co, .int ik, .int un, .int tp])), (d, .inr (0, [.long (lN m), .ref e0, .ref k0])), (e0, .inl (G.2.1, 61, .inl er)), (k0, .inl (G.2.1, 61, .inl sk)), (g, .inr (2, [.ref s0, .ref b0, .int (nI nx), .int (nI cn)])), (s0, .inl (G.2.1, 16, .inl st)), (b0, .inl (G.2.1, 16, .inl be))] (fun r w => r = some (.int (errR m er x v)) ∧ ((errOk m x v = false ∧ w = [(xo, .inr (4, [.ref d, .ref i1, .ref i2, .ref g, .ref ru, .ref co, .int ik, .int un, .int tp])), (d, .inr (0, [.long (lN m), .ref e0, .ref k0])), (e0, .inl (G.2.1, 61, .inl er)), (k0, .inl (G.2.1, 61, .inl sk)), (g, .inr (2, [.ref s0, .ref b0, .int (nI nx), .int (nI cn)])), (s0, .inl (G.2.1, 16, .inl st)), (b0, .inl (G.2.1, 16, .inl be))]) ∨ (errOk m x v = true ∧ w = [(xo, .inr (4, [.ref d, .ref i1, .ref i2, .ref g, .ref ru, .ref co, .int ik, .int un, .int (tp + 1)])), (d, .inr (0, [.long (lN (bcm m x.toNatClampNeg v)), .ref e0, .ref k0])), (e0, .inl (G.2.1, 61, .inl (upd er x.toNatClampNeg v))), (k0, .inl (G.2.1, 61, .inl sk)), (g, .inr (2, [.ref s0, .ref b0, .int (nI ((nx + 1) % 16)), .int (nI (lgc cn))])), (s0, .inl (G.2.1, 16, .inl (upd st nx (nI x.toNatClampNeg)))), (b0, .inl (G.2.1, 16, .inl (upd be nx (er x.toNatClampNeg))))]))) 0 0 := by
  refine ct_i (cc := cX7_error) (maxL := 4) (by decide +kernel) rfl (Nat.le_of_ble_eq_true rfl) ?_
  intro p e s mt below meth c A Q X hw hret ls hl
  obtain ⟨hx, hb, -⟩ := id X
  have hl : lv_has ls 4 [(0, .ref xo), (1, .int x), (2, .int v)] := hl
  refine lv_aload_n hx hb dX7_error_0 rfl (lv_at hl 0 rfl) ?_
  refine xg X hw (C := RX7) (T := TX7) (N := 9) (by decide +kernel) 0 rfl rfl 0 (by decide) rfl (by decide +kernel) rfl dX7_error_1 ?_
  refine lv_iload_n hx hb dX7_error_4 rfl (lv_at hl 1 rfl) ?_
  refine xcV (n := 1) (As := [.int x]) (rest := []) (wc := [(d, .inr (0, [.long (lN m), .ref e0, .ref k0])), (e0, .inl (G.2.1, 61, .inl er)), (k0, .inl (G.2.1, 61, .inl sk))]) (wr := [(xo, .inr (4, [.ref d, .ref i1, .ref i2, .ref g, .ref ru, .ref co, .int ik, .int un, .int tp])), (g, .inr (2, [.ref s0, .ref b0, .int (nI nx), .int (nI cn)])), (s0, .inl (G.2.1, 16, .inl st)), (b0, .inl (G.2.1, 16, .inl be))]) X hw (c_X1_standsAt l G d e0 k0 m er sk x hm) (C := RX1) gX7_error_X1_standsAt (q0 := 1) rfl rfl rfl ⟨rfl, rfl⟩ (by decide +kernel) ⟨by decide, by decide⟩ rfl hl.1 rfl (Nat.le_of_ble_eq_true rfl) dX7_error_5 ⟨by decide, by decide⟩ [1, 2, 3] [0, 4, 5, 6] rfl rfl rfl rfl (by decide) (fun r w1 H locs hp hw => ?_)
  obtain ⟨rfl, rfl⟩ := hp
  have hw := hw.sub (ws' := [(xo, .inr (4, [.ref d, .ref i1, .ref i2, .ref g, .ref ru, .ref co, .int ik, .int un, .int tp])), (d, .inr (0, [.long (lN m), .ref e0, .ref k0])), (e0, .inl (G.2.1, 61, .inl er)), (k0, .inl (G.2.1, 61, .inl sk)), (g, .inr (2, [.ref s0, .ref b0, .int (nI nx), .int (nI cn)])), (s0, .inl (G.2.1, 16, .inl st)), (b0, .inl (G.2.1, 16, .inl be))]) [0, 4, 5, 6, 1, 2, 3] rfl rfl
  refine W.eq (g2 := F0 mt 8 ls [.int (bi (stn m x))]) rfl ?_
  refine lv_if_ne (tgt := 13) hx hb dX7_error_8 (by decide) (fun c8 => ?_) (fun c8 => ?_)
  · have hs := bi_t c8
    obtain ⟨k, hk, rfl, hbk⟩ := stn_in hs
    have hck := cl_k hk
    refine lv_iload_n hx hb dX7_error_13 rfl (lv_at hl 2 rfl) ?_
    refine xcP (n := 1) (As := [.int v]) (rest := []) X hw (c_X7_isPhase l G v ) gX7_error_X7_isPhase rfl ⟨rfl, rfl⟩ (by decide +kernel) ⟨by decide, by decide⟩ rfl hl.1 rfl (Nat.le_of_ble_eq_true rfl) dX7_error_14 ⟨by decide, by decide⟩ (fun r w1 H locs hp hw => ?_)
    obtain rfl := hp
    refine W.eq (g2 := F0 mt 17 ls [.int (bi (inP v))]) rfl ?_
    refine lv_if_ne (tgt := 23) hx hb dX7_error_17 (by decide) (fun c17 => ?_) (fun c17 => ?_)
    · have hp := bi_t c17
      refine lv_aload_n hx hb dX7_error_23 rfl (lv_at hl 0 rfl) ?_
      refine xg X hw (C := RX7) (T := TX7) (N := 9) (by decide +kernel) 0 rfl rfl 0 (by decide) rfl (by decide +kernel) rfl dX7_error_24 ?_
      refine lv_iload_n hx hb dX7_error_27 rfl (lv_at hl 1 rfl) ?_
      refine xcV (n := 1) (As := [.int (nI k)]) (rest := []) (wc := [(d, .inr (0, [.long (lN m), .ref e0, .ref k0])), (e0, .inl (G.2.1, 61, .inl er)), (k0, .inl (G.2.1, 61, .inl sk))]) (wr := [(xo, .inr (4, [.ref d, .ref i1, .ref i2, .ref g, .ref ru, .ref co, .int ik, .int un, .int tp])), (g, .inr (2, [.ref s0, .ref b0, .int (nI nx), .int (nI cn)])), (s0, .inl (G.2.1, 16, .inl st)), (b0, .inl (G.2.1, 16, .inl be))]) X hw (c_X1_errorAt l G d e0 k0 m er sk (nI k) ) (C := RX1) gX7_error_X1_errorAt (q0 := 1) rfl rfl rfl ⟨rfl, rfl⟩ (by decide +kernel) ⟨by decide, by decide⟩ rfl hl.1 rfl (Nat.le_of_ble_eq_true rfl) dX7_error_28 ⟨by decide, by decide⟩ [1, 2, 3] [0, 4, 5, 6] rfl rfl rfl rfl (by decide) (fun r w1 H locs hp hw => ?_)
      obtain ⟨rfl, rfl⟩ := hp
      have hw := hw.sub (ws' := [(xo, .inr (4, [.ref d, .ref i1, .ref i2, .ref g, .ref ru, .ref co, .int ik, .int un, .int tp])), (d, .inr (0, [.long (lN m), .ref e0, .ref k0])), (e0, .inl (G.2.1, 61, .inl er)), (k0, .inl (G.2.1, 61, .inl sk)), (g, .inr (2, [.ref s0, .ref b0, .int (nI nx), .int (nI cn)])), (s0, .inl (G.2.1, 16, .inl st)), (b0, .inl (G.2.1, 16, .inl be))]) [0, 4, 5, 6, 1, 2, 3] rfl rfl
      refine W.eq (g2 := F0 mt 31 ls [.int (erX er (nI k))]) rfl ?_
      refine x_cvi (y := er k) (by exact erX_nI hk) ?_
      refine lv_istore_n (lv' := [(3, .int (er k)), (0, .ref xo), (1, .int (nI k)), (2, .int v)]) hx hb dX7_error_31 rfl hl (by decide) rfl (fun ls hl => ?_)
      refine lv_aload_n hx hb dX7_error_32 rfl (lv_at hl 1 rfl) ?_
      refine lv_iload_n hx hb dX7_error_33 rfl (lv_at hl 2 rfl) ?_
      refine lv_iload_n hx hb dX7_error_34 rfl (lv_at hl 3 rfl) ?_
      refine xcV (n := 2) (As := [.int (nI k), .int v]) (rest := []) (wc := [(xo, .inr (4, [.ref d, .ref i1, .ref i2, .ref g, .ref ru, .ref co, .int ik, .int un, .int tp])), (d, .inr (0, [.long (lN m), .ref e0, .ref k0])), (e0, .inl (G.2.1, 61, .inl er)), (k0, .inl (G.2.1, 61, .inl sk)), (g, .inr (2, [.ref s0, .ref b0, .int (nI nx), .int (nI cn)])), (s0, .inl (G.2.1, 16, .inl st)), (b0, .inl (G.2.1, 16, .inl be))]) (wr := []) X hw (c_X7_change l G xo i1 i2 ru co ik un tp d e0 k0 m er sk g s0 b0 st be nx cn k v hk hn hc) (C := RX7) gX7_error_X7_change (q0 := 0) rfl rfl rfl ⟨rfl, rfl⟩ (by decide +kernel) ⟨by decide, by decide⟩ rfl hl.1 rfl (Nat.le_of_ble_eq_true rfl) dX7_error_35 ⟨by decide, by decide⟩ [0, 1, 2, 3, 4, 5, 6] [] rfl rfl rfl rfl (by decide) (fun r w1 H locs hp hw => ?_)
      obtain ⟨rfl, rfl⟩ := hp
      have hw := hw.sub (ws' := [(xo, .inr (4, [.ref d, .ref i1, .ref i2, .ref g, .ref ru, .ref co, .int ik, .int un, .int tp])), (d, .inr (0, [.long (lN (bcm m k v)), .ref e0, .ref k0])), (e0, .inl (G.2.1, 61, .inl (upd er k v))), (k0, .inl (G.2.1, 61, .inl sk)), (g, .inr (2, [.ref s0, .ref b0, .int (nI ((nx + 1) % 16)), .int (nI (lgc cn))])), (s0, .inl (G.2.1, 16, .inl (upd st nx (nI k)))), (b0, .inl (G.2.1, 16, .inl (upd be nx (er k))))]) [0, 1, 2, 3, 4, 5, 6] rfl rfl
      refine W.eq (g2 := F0 mt 38 ls []) rfl ?_
      refine lv_aload_n hx hb dX7_error_38 rfl (lv_at hl 1 rfl) ?_
      refine lv_dup hx hb dX7_error_39 rfl ?_
      refine xg X hw (C := RX7) (T := TX7) (N := 9) (by decide +kernel) 0 rfl rfl 8 (by decide) rfl (by decide +kernel) rfl dX7_error_40 ?_
      refine lv_iconst (v := 1) hx hb dX7_error_43 (by decide) ?_
      refine lv_iadd hx hb dX7_error_44 ?_
      refine xp X hw (C := RX7) (ty := .int) (T := TX7) (N := 9) (by decide +kernel) tyX7 tyX7_ok nmX7 0 rfl rfl 8 (by decide) rfl (by decide +kernel) rfl (by decide +kernel) rfl rfl (Nat.le_of_ble_eq_true rfl) dX7_error_45 (ws' := [(xo, .inr (4, [.ref d, .ref i1, .ref i2, .ref g, .ref ru, .ref co, .int ik, .int un, .int (tp + 1)])), (d, .inr (0, [.long (lN (bcm m k v)), .ref e0, .ref k0])), (e0, .inl (G.2.1, 61, .inl (upd er k v))), (k0, .inl (G.2.1, 61, .inl sk)), (g, .inr (2, [.ref s0, .ref b0, .int (nI ((nx + 1) % 16)), .int (nI (lgc cn))])), (s0, .inl (G.2.1, 16, .inl (upd st nx (nI k)))), (b0, .inl (G.2.1, 16, .inl (upd be nx (er k))))]) rfl (fun H locs hw => ?_)
      refine lv_iload_n hx hb dX7_error_48 rfl (lv_at hl 0 rfl) ?_
      refine hret _ _ _ _ _ _ dX7_error_49 hw ?_
      refine ⟨congrArg (fun z => some (Value.int z)) (by simp [errR, hs, hp, hck]), Or.inr ⟨by simp [errOk, hs, hp], ?_⟩⟩
      rw [hck]
    · have hp := bi_f c17
      refine lv_bipush (v := (-2)) hx hb dX7_error_20 (by decide) ?_
      refine hret _ _ _ _ _ _ dX7_error_22 hw ?_
      exact ⟨congrArg (fun z => some (Value.int z)) (by simp [errR, hs, hp]), Or.inl ⟨by simp [errOk, hs, hp], rfl⟩⟩
  · have hs := bi_f c8
    refine lv_iconst (v := (-1)) hx hb dX7_error_11 (by decide) ?_
    refine hret _ _ _ _ _ _ dX7_error_12 hw ?_
    exact ⟨congrArg (fun z => some (Value.int z)) (by simp [errR, hs]), Or.inl ⟨by simp [errOk, hs], rfl⟩⟩

set_option maxHeartbeats 4000000 in
set_option maxRecDepth 100000 in
theorem c_X7_sky (l : Launch) (G : GG) (xo : Nat) (i1 : Nat) (i2 : Nat) (ru : Nat) (co : Nat) (ik : Int32) (un : Int32) (tp : Int32) (g : Nat) (d : Nat) (e0 : Nat) (k0 : Nat) (m : Nat) (er : Nat → Int32) (sk : Nat → Int32) (x : Int32) (v : Int32)  : CT l G yX7_sky wsX7_sky ({ frames := 2, cells := 0, slots := 0, locals := 42 } : Room) [.ref xo, .int x, .int v] [(xo, .inr (4, [.ref d, .ref i1, .ref i2, .ref g, .ref ru, .ref co, .int ik, .int un, .int tp])), (d, .inr (0, [.long (lN m), .ref e0, .ref k0])), (e0, .inl (G.2.1, 61, .inl er)), (k0, .inl (G.2.1, 61, .inl sk))] (fun r w => r = some (.int (skyR sk x v)) ∧ ((skyOk x v = false ∧ w = [(xo, .inr (4, [.ref d, .ref i1, .ref i2, .ref g, .ref ru, .ref co, .int ik, .int un, .int tp])), (d, .inr (0, [.long (lN m), .ref e0, .ref k0])), (e0, .inl (G.2.1, 61, .inl er)), (k0, .inl (G.2.1, 61, .inl sk))]) ∨ (skyOk x v = true ∧ w = [(xo, .inr (4, [.ref d, .ref i1, .ref i2, .ref g, .ref ru, .ref co, .int ik, .int un, .int (tp + 1)])), (d, .inr (0, [.long (lN m), .ref e0, .ref k0])), (e0, .inl (G.2.1, 61, .inl er)), (k0, .inl (G.2.1, 61, .inl (upd sk x.toNatClampNeg v)))]))) 0 0 := by
  refine ct_i (cc := cX7_sky) (maxL := 4) (by decide +kernel) rfl (Nat.le_of_ble_eq_true rfl) ?_
  intro p e s mt below meth c A Q X hw hret ls hl
  obtain ⟨hx, hb, -⟩ := id X
  have hl : lv_has ls 4 [(0, .ref xo), (1, .int x), (2, .int v)] := hl
  refine lv_iload_n hx hb dX7_sky_0 rfl (lv_at hl 1 rfl) ?_
  refine xcP (n := 1) (As := [.int x]) (rest := []) X hw (c_X7_isLength l G x ) gX7_sky_X7_isLength rfl ⟨rfl, rfl⟩ (by decide +kernel) ⟨by decide, by decide⟩ rfl hl.1 rfl (Nat.le_of_ble_eq_true rfl) dX7_sky_1 ⟨by decide, by decide⟩ (fun r w1 H locs hp hw => ?_)
  obtain rfl := hp
  refine W.eq (g2 := F0 mt 4 ls [.int (bi (inL x))]) rfl ?_
  refine lv_if_eq (tgt := 14) hx hb dX7_sky_4 (by decide) (fun c4 => ?_) (fun c4 => ?_)
  · have hi := bi_f c4
    refine lv_bipush (v := (-2)) hx hb dX7_sky_14 (by decide) ?_
    refine hret _ _ _ _ _ _ dX7_sky_16 hw ?_
    exact ⟨congrArg (fun z => some (Value.int z)) (by simp [skyR, skyOk, hi]), Or.inl ⟨by simp [skyOk, hi], rfl⟩⟩
  · have hi := bi_t c4
    obtain ⟨k, hk1, hk, rfl⟩ := inL_of hi
    have hck := cl_k hk
    refine lv_iload_n hx hb dX7_sky_7 rfl (lv_at hl 2 rfl) ?_
    refine xcP (n := 1) (As := [.int v]) (rest := []) X hw (c_X7_isPhase l G v ) gX7_sky_X7_isPhase rfl ⟨rfl, rfl⟩ (by decide +kernel) ⟨by decide, by decide⟩ rfl hl.1 rfl (Nat.le_of_ble_eq_true rfl) dX7_sky_8 ⟨by decide, by decide⟩ (fun r w1 H locs hp hw => ?_)
    obtain rfl := hp
    refine W.eq (g2 := F0 mt 11 ls [.int (bi (inP v))]) rfl ?_
    refine lv_if_ne (tgt := 17) hx hb dX7_sky_11 (by decide) (fun c11 => ?_) (fun c11 => ?_)
    · have hp := bi_t c11
      refine lv_aload_n hx hb dX7_sky_17 rfl (lv_at hl 0 rfl) ?_
      refine xg X hw (C := RX7) (T := TX7) (N := 9) (by decide +kernel) 0 rfl rfl 0 (by decide) rfl (by decide +kernel) rfl dX7_sky_18 ?_
      refine lv_iload_n hx hb dX7_sky_21 rfl (lv_at hl 1 rfl) ?_
      refine xcV (n := 1) (As := [.int (nI k)]) (rest := []) (wc := [(d, .inr (0, [.long (lN m), .ref e0, .ref k0])), (e0, .inl (G.2.1, 61, .inl er)), (k0, .inl (G.2.1, 61, .inl sk))]) (wr := [(xo, .inr (4, [.ref d, .ref i1, .ref i2, .ref g, .ref ru, .ref co, .int ik, .int un, .int tp]))]) X hw (c_X1_skyOf l G d e0 k0 m er sk (nI k) ) (C := RX1) gX7_sky_X1_skyOf (q0 := 1) rfl rfl rfl ⟨rfl, rfl⟩ (by decide +kernel) ⟨by decide, by decide⟩ rfl hl.1 rfl (Nat.le_of_ble_eq_true rfl) dX7_sky_22 ⟨by decide, by decide⟩ [1, 2, 3] [0] rfl rfl rfl rfl (by decide) (fun r w1 H locs hp hw => ?_)
      obtain ⟨rfl, rfl⟩ := hp
      have hw := hw.sub (ws' := [(xo, .inr (4, [.ref d, .ref i1, .ref i2, .ref g, .ref ru, .ref co, .int ik, .int un, .int tp])), (d, .inr (0, [.long (lN m), .ref e0, .ref k0])), (e0, .inl (G.2.1, 61, .inl er)), (k0, .inl (G.2.1, 61, .inl sk))]) [0, 1, 2, 3] rfl rfl
      refine W.eq (g2 := F0 mt 25 ls [.int (skX sk (nI k))]) rfl ?_
      refine x_cvi (y := sk k) (by exact skX_nI hk1 hk) ?_
      refine lv_istore_n (lv' := [(3, .int (sk k)), (0, .ref xo), (1, .int (nI k)), (2, .int v)]) hx hb dX7_sky_25 rfl hl (by decide) rfl (fun ls hl => ?_)
      refine lv_aload_n hx hb dX7_sky_26 rfl (lv_at hl 1 rfl) ?_
      refine xg X hw (C := RX7) (T := TX7) (N := 9) (by decide +kernel) 0 rfl rfl 0 (by decide) rfl (by decide +kernel) rfl dX7_sky_27 ?_
      refine lv_iload_n hx hb dX7_sky_30 rfl (lv_at hl 2 rfl) ?_
      refine lv_iload_n hx hb dX7_sky_31 rfl (lv_at hl 3 rfl) ?_
      refine xcV (n := 2) (As := [.int (nI k), .int v]) (rest := []) (wc := [(d, .inr (0, [.long (lN m), .ref e0, .ref k0])), (e0, .inl (G.2.1, 61, .inl er)), (k0, .inl (G.2.1, 61, .inl sk))]) (wr := [(xo, .inr (4, [.ref d, .ref i1, .ref i2, .ref g, .ref ru, .ref co, .int ik, .int un, .int tp]))]) X hw (c_X1_tellSky l G d e0 k0 m er sk k v hk1 hk) (C := RX1) gX7_sky_X1_tellSky (q0 := 1) rfl rfl rfl ⟨rfl, rfl⟩ (by decide +kernel) ⟨by decide, by decide⟩ rfl hl.1 rfl (Nat.le_of_ble_eq_true rfl) dX7_sky_32 ⟨by decide, by decide⟩ [1, 2, 3] [0] rfl rfl rfl rfl (by decide) (fun r w1 H locs hp hw => ?_)
      obtain ⟨rfl, rfl⟩ := hp
      have hw := hw.sub (ws' := [(xo, .inr (4, [.ref d, .ref i1, .ref i2, .ref g, .ref ru, .ref co, .int ik, .int un, .int tp])), (d, .inr (0, [.long (lN m), .ref e0, .ref k0])), (e0, .inl (G.2.1, 61, .inl er)), (k0, .inl (G.2.1, 61, .inl (upd sk k v)))]) [0, 1, 2, 3] rfl rfl
      refine W.eq (g2 := F0 mt 35 ls []) rfl ?_
      refine lv_aload_n hx hb dX7_sky_35 rfl (lv_at hl 1 rfl) ?_
      refine lv_dup hx hb dX7_sky_36 rfl ?_
      refine xg X hw (C := RX7) (T := TX7) (N := 9) (by decide +kernel) 0 rfl rfl 8 (by decide) rfl (by decide +kernel) rfl dX7_sky_37 ?_
      refine lv_iconst (v := 1) hx hb dX7_sky_40 (by decide) ?_
      refine lv_iadd hx hb dX7_sky_41 ?_
      refine xp X hw (C := RX7) (ty := .int) (T := TX7) (N := 9) (by decide +kernel) tyX7 tyX7_ok nmX7 0 rfl rfl 8 (by decide) rfl (by decide +kernel) rfl (by decide +kernel) rfl rfl (Nat.le_of_ble_eq_true rfl) dX7_sky_42 (ws' := [(xo, .inr (4, [.ref d, .ref i1, .ref i2, .ref g, .ref ru, .ref co, .int ik, .int un, .int (tp + 1)])), (d, .inr (0, [.long (lN m), .ref e0, .ref k0])), (e0, .inl (G.2.1, 61, .inl er)), (k0, .inl (G.2.1, 61, .inl (upd sk k v)))]) rfl (fun H locs hw => ?_)
      refine lv_iload_n hx hb dX7_sky_45 rfl (lv_at hl 0 rfl) ?_
      refine hret _ _ _ _ _ _ dX7_sky_46 hw ?_
      refine ⟨congrArg (fun z => some (Value.int z)) (by simp [skyR, skyOk, hi, hp, hck]), Or.inr ⟨by simp [skyOk, hi, hp], ?_⟩⟩
      rw [hck]
    · have hp := bi_f c11
      refine lv_bipush (v := (-2)) hx hb dX7_sky_14 (by decide) ?_
      refine hret _ _ _ _ _ _ dX7_sky_16 hw ?_
      exact ⟨congrArg (fun z => some (Value.int z)) (by simp [skyR, skyOk, hi, hp]), Or.inl ⟨by simp [skyOk, hi, hp], rfl⟩⟩

set_option maxHeartbeats 4000000 in
set_option maxRecDepth 100000 in
theorem c_X7_phase (l : Launch) (G : GG) (xo : Nat) (i1 : Nat) (i2 : Nat) (ru : Nat) (co : Nat) (ik : Int32) (un : Int32) (tp : Int32) (g : Nat) (d : Nat) (e0 : Nat) (k0 : Nat) (m : Nat) (er : Nat → Int32) (sk : Nat → Int32) (x : Int32) (y : Int32) (hm : m < 2 ^ 61) : CT l G yX7_phase wsX7_phase ({ frames := 4, cells := 0, slots := 0, locals := 83 } : Room) [.ref xo, .int x, .int y] [(xo, .inr (4, [.ref d, .ref i1, .ref i2, .ref g, .ref ru, .ref co, .int ik, .int un, .int tp])), (d, .inr (0, [.long (lN m), .ref e0, .ref k0])), (e0, .inl (G.2.1, 61, .inl er)), (k0, .inl (G.2.1, 61, .inl sk))] (fun r w => r = some (.int (phR m er sk x y)) ∧ w = [(xo, .inr (4, [.ref d, .ref i1, .ref i2, .ref g, .ref ru, .ref co, .int ik, .int un, .int tp])), (d, .inr (0, [.long (lN m), .ref e0, .ref k0])), (e0, .inl (G.2.1, 61, .inl er)), (k0, .inl (G.2.1, 61, .inl sk))]) 0 0 := by
  refine ct_i (cc := cX7_phase) (maxL := 3) (by decide +kernel) rfl (Nat.le_of_ble_eq_true rfl) ?_
  intro p e s mt below meth c A Q X hw hret ls hl
  obtain ⟨hx, hb, -⟩ := id X
  have hl : lv_has ls 3 [(0, .ref xo), (1, .int x), (2, .int y)] := hl
  refine lv_aload_n hx hb dX7_phase_0 rfl (lv_at hl 0 rfl) ?_
  refine xg X hw (C := RX7) (T := TX7) (N := 9) (by decide +kernel) 0 rfl rfl 0 (by decide) rfl (by decide +kernel) rfl dX7_phase_1 ?_
  refine lv_iload_n hx hb dX7_phase_4 rfl (lv_at hl 1 rfl) ?_
  refine xcV (n := 1) (As := [.int x]) (rest := []) (wc := [(d, .inr (0, [.long (lN m), .ref e0, .ref k0])), (e0, .inl (G.2.1, 61, .inl er)), (k0, .inl (G.2.1, 61, .inl sk))]) (wr := [(xo, .inr (4, [.ref d, .ref i1, .ref i2, .ref g, .ref ru, .ref co, .int ik, .int un, .int tp]))]) X hw (c_X1_standsAt l G d e0 k0 m er sk x hm) (C := RX1) gX7_phase_X1_standsAt (q0 := 1) rfl rfl rfl ⟨rfl, rfl⟩ (by decide +kernel) ⟨by decide, by decide⟩ rfl hl.1 rfl (Nat.le_of_ble_eq_true rfl) dX7_phase_5 ⟨by decide, by decide⟩ [1, 2, 3] [0] rfl rfl rfl rfl (by decide) (fun r w1 H locs hp hw => ?_)
  obtain ⟨rfl, rfl⟩ := hp
  have hw := hw.sub (ws' := [(xo, .inr (4, [.ref d, .ref i1, .ref i2, .ref g, .ref ru, .ref co, .int ik, .int un, .int tp])), (d, .inr (0, [.long (lN m), .ref e0, .ref k0])), (e0, .inl (G.2.1, 61, .inl er)), (k0, .inl (G.2.1, 61, .inl sk))]) [0, 1, 2, 3] rfl rfl
  refine W.eq (g2 := F0 mt 8 ls [.int (bi (stn m x))]) rfl ?_
  refine lv_if_eq (tgt := 22) hx hb dX7_phase_8 (by decide) (fun c8 => ?_) (fun c8 => ?_)
  · have hs := bi_f c8
    refine lv_iconst (v := (-1)) hx hb dX7_phase_22 (by decide) ?_
    refine hret _ _ _ _ _ _ dX7_phase_23 hw ?_
    exact ⟨congrArg (fun z => some (Value.int z)) (by simp [phR, hs]), rfl⟩
  · have hs := bi_t c8
    obtain ⟨k, hk, rfl, hbk⟩ := stn_in hs
    have hck := cl_k hk
    refine lv_aload_n hx hb dX7_phase_11 rfl (lv_at hl 0 rfl) ?_
    refine xg X hw (C := RX7) (T := TX7) (N := 9) (by decide +kernel) 0 rfl rfl 0 (by decide) rfl (by decide +kernel) rfl dX7_phase_12 ?_
    refine lv_iload_n hx hb dX7_phase_15 rfl (lv_at hl 2 rfl) ?_
    refine xcV (n := 1) (As := [.int y]) (rest := []) (wc := [(d, .inr (0, [.long (lN m), .ref e0, .ref k0])), (e0, .inl (G.2.1, 61, .inl er)), (k0, .inl (G.2.1, 61, .inl sk))]) (wr := [(xo, .inr (4, [.ref d, .ref i1, .ref i2, .ref g, .ref ru, .ref co, .int ik, .int un, .int tp]))]) X hw (c_X1_standsAt l G d e0 k0 m er sk y hm) (C := RX1) gX7_phase_X1_standsAt (q0 := 1) rfl rfl rfl ⟨rfl, rfl⟩ (by decide +kernel) ⟨by decide, by decide⟩ rfl hl.1 rfl (Nat.le_of_ble_eq_true rfl) dX7_phase_16 ⟨by decide, by decide⟩ [1, 2, 3] [0] rfl rfl rfl rfl (by decide) (fun r w1 H locs hp hw => ?_)
    obtain ⟨rfl, rfl⟩ := hp
    have hw := hw.sub (ws' := [(xo, .inr (4, [.ref d, .ref i1, .ref i2, .ref g, .ref ru, .ref co, .int ik, .int un, .int tp])), (d, .inr (0, [.long (lN m), .ref e0, .ref k0])), (e0, .inl (G.2.1, 61, .inl er)), (k0, .inl (G.2.1, 61, .inl sk))]) [0, 1, 2, 3] rfl rfl
    refine W.eq (g2 := F0 mt 19 ls [.int (bi (stn m y))]) rfl ?_
    refine lv_if_ne (tgt := 24) hx hb dX7_phase_19 (by decide) (fun c19 => ?_) (fun c19 => ?_)
    · have hs2 := bi_t c19
      obtain ⟨k2, hk2, rfl, hbk2⟩ := stn_in hs2
      have hck2 := cl_k hk2
      refine lv_iload_n hx hb dX7_phase_24 rfl (lv_at hl 1 rfl) ?_
      refine lv_iload_n hx hb dX7_phase_25 rfl (lv_at hl 2 rfl) ?_
      refine lv_icmp_ne (tgt := 32) hx hb dX7_phase_26 (by decide) (fun c26 => ?_) (fun c26 => ?_)
      · refine lv_aload_n hx hb dX7_phase_32 rfl (lv_at hl 0 rfl) ?_
        refine xg X hw (C := RX7) (T := TX7) (N := 9) (by decide +kernel) 0 rfl rfl 0 (by decide) rfl (by decide +kernel) rfl dX7_phase_33 ?_
        refine lv_iload_n hx hb dX7_phase_36 rfl (lv_at hl 1 rfl) ?_
        refine lv_iload_n hx hb dX7_phase_37 rfl (lv_at hl 2 rfl) ?_
        refine xcV (n := 2) (As := [.int (nI k), .int (nI k2)]) (rest := []) (wc := [(d, .inr (0, [.long (lN m), .ref e0, .ref k0])), (e0, .inl (G.2.1, 61, .inl er)), (k0, .inl (G.2.1, 61, .inl sk))]) (wr := [(xo, .inr (4, [.ref d, .ref i1, .ref i2, .ref g, .ref ru, .ref co, .int ik, .int un, .int tp]))]) X hw (c_X1_phaseFrom l G d e0 k0 m er sk k k2 hk hk2 (fun q => c26 (by rw [q]))) (C := RX1) gX7_phase_X1_phaseFrom (q0 := 1) rfl rfl rfl ⟨rfl, rfl⟩ (by decide +kernel) ⟨by decide, by decide⟩ rfl hl.1 rfl (Nat.le_of_ble_eq_true rfl) dX7_phase_38 ⟨by decide, by decide⟩ [1, 2, 3] [0] rfl rfl rfl rfl (by decide) (fun r w1 H locs hp hw => ?_)
        obtain ⟨rfl, rfl⟩ := hp
        have hw := hw.sub (ws' := [(xo, .inr (4, [.ref d, .ref i1, .ref i2, .ref g, .ref ru, .ref co, .int ik, .int un, .int tp])), (d, .inr (0, [.long (lN m), .ref e0, .ref k0])), (e0, .inl (G.2.1, 61, .inl er)), (k0, .inl (G.2.1, 61, .inl sk))]) [0, 1, 2, 3] rfl rfl
        refine W.eq (g2 := F0 mt 41 ls [.int (phv sk er k k2)]) rfl ?_
        refine hret _ _ _ _ _ _ dX7_phase_41 hw ?_
        exact ⟨congrArg (fun z => some (Value.int z)) (by simp [phR, hs, hs2, c26, hck, hck2]), rfl⟩
      · refine lv_bipush (v := (-5)) hx hb dX7_phase_29 (by decide) ?_
        refine hret _ _ _ _ _ _ dX7_phase_31 hw ?_
        exact ⟨congrArg (fun z => some (Value.int z)) (by simp [phR, hs, hs2, c26]), rfl⟩
    · have hs2 := bi_f c19
      refine lv_iconst (v := (-1)) hx hb dX7_phase_22 (by decide) ?_
      refine hret _ _ _ _ _ _ dX7_phase_23 hw ?_
      exact ⟨congrArg (fun z => some (Value.int z)) (by simp [phR, hs, hs2]), rfl⟩

set_option maxHeartbeats 4000000 in
set_option maxRecDepth 100000 in
theorem c_X7_closure (l : Launch) (G : GG) (xo : Nat) (i1 : Nat) (i2 : Nat) (ru : Nat) (co : Nat) (ik : Int32) (un : Int32) (tp : Int32) (g : Nat) (d : Nat) (e0 : Nat) (k0 : Nat) (m : Nat) (er : Nat → Int32) (sk : Nat → Int32) (x : Int32) (y : Int32) (z : Int32) (hm : m < 2 ^ 61) : CT l G yX7_closure wsX7_closure ({ frames := 4, cells := 0, slots := 0, locals := 83 } : Room) [.ref xo, .int x, .int y, .int z] [(xo, .inr (4, [.ref d, .ref i1, .ref i2, .ref g, .ref ru, .ref co, .int ik, .int un, .int tp])), (d, .inr (0, [.long (lN m), .ref e0, .ref k0])), (e0, .inl (G.2.1, 61, .inl er)), (k0, .inl (G.2.1, 61, .inl sk))] (fun r w => r = some (.int (clR m er sk x y z)) ∧ w = [(xo, .inr (4, [.ref d, .ref i1, .ref i2, .ref g, .ref ru, .ref co, .int ik, .int un, .int tp])), (d, .inr (0, [.long (lN m), .ref e0, .ref k0])), (e0, .inl (G.2.1, 61, .inl er)), (k0, .inl (G.2.1, 61, .inl sk))]) 0 0 := by
  refine ct_i (cc := cX7_closure) (maxL := 5) (by decide +kernel) rfl (Nat.le_of_ble_eq_true rfl) ?_
  intro p e s mt below meth c A Q X hw hret ls hl
  obtain ⟨hx, hb, -⟩ := id X
  have hl : lv_has ls 5 [(0, .ref xo), (1, .int x), (2, .int y), (3, .int z)] := hl
  refine lv_aload_n hx hb dX7_closure_0 rfl (lv_at hl 0 rfl) ?_
  refine xg X hw (C := RX7) (T := TX7) (N := 9) (by decide +kernel) 0 rfl rfl 0 (by decide) rfl (by decide +kernel) rfl dX7_closure_1 ?_
  refine lv_iload_n hx hb dX7_closure_4 rfl (lv_at hl 1 rfl) ?_
  refine xcV (n := 1) (As := [.int x]) (rest := []) (wc := [(d, .inr (0, [.long (lN m), .ref e0, .ref k0])), (e0, .inl (G.2.1, 61, .inl er)), (k0, .inl (G.2.1, 61, .inl sk))]) (wr := [(xo, .inr (4, [.ref d, .ref i1, .ref i2, .ref g, .ref ru, .ref co, .int ik, .int un, .int tp]))]) X hw (c_X1_standsAt l G d e0 k0 m er sk x hm) (C := RX1) gX7_closure_X1_standsAt (q0 := 1) rfl rfl rfl ⟨rfl, rfl⟩ (by decide +kernel) ⟨by decide, by decide⟩ rfl hl.1 rfl (Nat.le_of_ble_eq_true rfl) dX7_closure_5 ⟨by decide, by decide⟩ [1, 2, 3] [0] rfl rfl rfl rfl (by decide) (fun r w1 H locs hp hw => ?_)
  obtain ⟨rfl, rfl⟩ := hp
  have hw := hw.sub (ws' := [(xo, .inr (4, [.ref d, .ref i1, .ref i2, .ref g, .ref ru, .ref co, .int ik, .int un, .int tp])), (d, .inr (0, [.long (lN m), .ref e0, .ref k0])), (e0, .inl (G.2.1, 61, .inl er)), (k0, .inl (G.2.1, 61, .inl sk))]) [0, 1, 2, 3] rfl rfl
  refine W.eq (g2 := F0 mt 8 ls [.int (bi (stn m x))]) rfl ?_
  refine lv_if_eq (tgt := 33) hx hb dX7_closure_8 (by decide) (fun c8 => ?_) (fun c8 => ?_)
  · have hs := bi_f c8
    refine lv_iconst (v := (-1)) hx hb dX7_closure_33 (by decide) ?_
    refine hret _ _ _ _ _ _ dX7_closure_34 hw ?_
    exact ⟨congrArg (fun z => some (Value.int z)) (by unfold clR; rw [if_neg (by first | (rw [hs]; simp; done) | (rw [hs2]; simp; done) | (rw [hs3]; simp; done))]), rfl⟩
  · have hs := bi_t c8
    obtain ⟨k, hk, rfl, hbk⟩ := stn_in hs
    have hck := cl_k hk
    refine lv_aload_n hx hb dX7_closure_11 rfl (lv_at hl 0 rfl) ?_
    refine xg X hw (C := RX7) (T := TX7) (N := 9) (by decide +kernel) 0 rfl rfl 0 (by decide) rfl (by decide +kernel) rfl dX7_closure_12 ?_
    refine lv_iload_n hx hb dX7_closure_15 rfl (lv_at hl 2 rfl) ?_
    refine xcV (n := 1) (As := [.int y]) (rest := []) (wc := [(d, .inr (0, [.long (lN m), .ref e0, .ref k0])), (e0, .inl (G.2.1, 61, .inl er)), (k0, .inl (G.2.1, 61, .inl sk))]) (wr := [(xo, .inr (4, [.ref d, .ref i1, .ref i2, .ref g, .ref ru, .ref co, .int ik, .int un, .int tp]))]) X hw (c_X1_standsAt l G d e0 k0 m er sk y hm) (C := RX1) gX7_closure_X1_standsAt (q0 := 1) rfl rfl rfl ⟨rfl, rfl⟩ (by decide +kernel) ⟨by decide, by decide⟩ rfl hl.1 rfl (Nat.le_of_ble_eq_true rfl) dX7_closure_16 ⟨by decide, by decide⟩ [1, 2, 3] [0] rfl rfl rfl rfl (by decide) (fun r w1 H locs hp hw => ?_)
    obtain ⟨rfl, rfl⟩ := hp
    have hw := hw.sub (ws' := [(xo, .inr (4, [.ref d, .ref i1, .ref i2, .ref g, .ref ru, .ref co, .int ik, .int un, .int tp])), (d, .inr (0, [.long (lN m), .ref e0, .ref k0])), (e0, .inl (G.2.1, 61, .inl er)), (k0, .inl (G.2.1, 61, .inl sk))]) [0, 1, 2, 3] rfl rfl
    refine W.eq (g2 := F0 mt 19 ls [.int (bi (stn m y))]) rfl ?_
    refine lv_if_eq (tgt := 33) hx hb dX7_closure_19 (by decide) (fun c19 => ?_) (fun c19 => ?_)
    · have hs2 := bi_f c19
      refine lv_iconst (v := (-1)) hx hb dX7_closure_33 (by decide) ?_
      refine hret _ _ _ _ _ _ dX7_closure_34 hw ?_
      exact ⟨congrArg (fun z => some (Value.int z)) (by unfold clR; rw [if_neg (by first | (rw [hs]; simp; done) | (rw [hs2]; simp; done) | (rw [hs3]; simp; done))]), rfl⟩
    · have hs2 := bi_t c19
      obtain ⟨k2, hk2, rfl, hbk2⟩ := stn_in hs2
      have hck2 := cl_k hk2
      refine lv_aload_n hx hb dX7_closure_22 rfl (lv_at hl 0 rfl) ?_
      refine xg X hw (C := RX7) (T := TX7) (N := 9) (by decide +kernel) 0 rfl rfl 0 (by decide) rfl (by decide +kernel) rfl dX7_closure_23 ?_
      refine lv_iload_n hx hb dX7_closure_26 rfl (lv_at hl 3 rfl) ?_
      refine xcV (n := 1) (As := [.int z]) (rest := []) (wc := [(d, .inr (0, [.long (lN m), .ref e0, .ref k0])), (e0, .inl (G.2.1, 61, .inl er)), (k0, .inl (G.2.1, 61, .inl sk))]) (wr := [(xo, .inr (4, [.ref d, .ref i1, .ref i2, .ref g, .ref ru, .ref co, .int ik, .int un, .int tp]))]) X hw (c_X1_standsAt l G d e0 k0 m er sk z hm) (C := RX1) gX7_closure_X1_standsAt (q0 := 1) rfl rfl rfl ⟨rfl, rfl⟩ (by decide +kernel) ⟨by decide, by decide⟩ rfl hl.1 rfl (Nat.le_of_ble_eq_true rfl) dX7_closure_27 ⟨by decide, by decide⟩ [1, 2, 3] [0] rfl rfl rfl rfl (by decide) (fun r w1 H locs hp hw => ?_)
      obtain ⟨rfl, rfl⟩ := hp
      have hw := hw.sub (ws' := [(xo, .inr (4, [.ref d, .ref i1, .ref i2, .ref g, .ref ru, .ref co, .int ik, .int un, .int tp])), (d, .inr (0, [.long (lN m), .ref e0, .ref k0])), (e0, .inl (G.2.1, 61, .inl er)), (k0, .inl (G.2.1, 61, .inl sk))]) [0, 1, 2, 3] rfl rfl
      refine W.eq (g2 := F0 mt 30 ls [.int (bi (stn m z))]) rfl ?_
      refine lv_if_ne (tgt := 35) hx hb dX7_closure_30 (by decide) (fun c30 => ?_) (fun c30 => ?_)
      · have hs3 := bi_t c30
        obtain ⟨k3, hk3, rfl, hbk3⟩ := stn_in hs3
        have hck3 := cl_k hk3
        refine lv_iload_n hx hb dX7_closure_35 rfl (lv_at hl 1 rfl) ?_
        refine lv_iload_n hx hb dX7_closure_36 rfl (lv_at hl 2 rfl) ?_
        refine lv_icmp_eq (tgt := 50) hx hb dX7_closure_37 (by decide) (fun c37 => ?_) (fun c37 => ?_)
        · refine lv_bipush (v := (-5)) hx hb dX7_closure_50 (by decide) ?_
          refine hret _ _ _ _ _ _ dX7_closure_52 hw ?_
          exact ⟨congrArg (fun z => some (Value.int z)) (by simp_all [clR]), rfl⟩
        · refine lv_iload_n hx hb dX7_closure_40 rfl (lv_at hl 2 rfl) ?_
          refine lv_iload_n hx hb dX7_closure_41 rfl (lv_at hl 3 rfl) ?_
          refine lv_icmp_eq (tgt := 50) hx hb dX7_closure_42 (by decide) (fun c42 => ?_) (fun c42 => ?_)
          · refine lv_bipush (v := (-5)) hx hb dX7_closure_50 (by decide) ?_
            refine hret _ _ _ _ _ _ dX7_closure_52 hw ?_
            exact ⟨congrArg (fun z => some (Value.int z)) (by simp_all [clR]), rfl⟩
          · refine lv_iload_n hx hb dX7_closure_45 rfl (lv_at hl 3 rfl) ?_
            refine lv_iload_n hx hb dX7_closure_46 rfl (lv_at hl 1 rfl) ?_
            refine lv_icmp_ne (tgt := 53) hx hb dX7_closure_47 (by decide) (fun c47 => ?_) (fun c47 => ?_)
            · refine lv_aload_n hx hb dX7_closure_53 rfl (lv_at hl 0 rfl) ?_
              refine xg X hw (C := RX7) (T := TX7) (N := 9) (by decide +kernel) 0 rfl rfl 0 (by decide) rfl (by decide +kernel) rfl dX7_closure_54 ?_
              refine lv_iload_n hx hb dX7_closure_57 rfl (lv_at hl 1 rfl) ?_
              refine lv_iload_n hx hb dX7_closure_58 rfl (lv_at hl 2 rfl) ?_
              refine xcV (n := 2) (As := [.int (nI k), .int (nI k2)]) (rest := []) (wc := [(d, .inr (0, [.long (lN m), .ref e0, .ref k0])), (e0, .inl (G.2.1, 61, .inl er)), (k0, .inl (G.2.1, 61, .inl sk))]) (wr := [(xo, .inr (4, [.ref d, .ref i1, .ref i2, .ref g, .ref ru, .ref co, .int ik, .int un, .int tp]))]) X hw (c_X1_phaseFrom l G d e0 k0 m er sk k k2 hk hk2 (fun q => c37 (by rw [q]))) (C := RX1) gX7_closure_X1_phaseFrom (q0 := 1) rfl rfl rfl ⟨rfl, rfl⟩ (by decide +kernel) ⟨by decide, by decide⟩ rfl hl.1 rfl (Nat.le_of_ble_eq_true rfl) dX7_closure_59 ⟨by decide, by decide⟩ [1, 2, 3] [0] rfl rfl rfl rfl (by decide) (fun r w1 H locs hp hw => ?_)
              obtain ⟨rfl, rfl⟩ := hp
              have hw := hw.sub (ws' := [(xo, .inr (4, [.ref d, .ref i1, .ref i2, .ref g, .ref ru, .ref co, .int ik, .int un, .int tp])), (d, .inr (0, [.long (lN m), .ref e0, .ref k0])), (e0, .inl (G.2.1, 61, .inl er)), (k0, .inl (G.2.1, 61, .inl sk))]) [0, 1, 2, 3] rfl rfl
              refine W.eq (g2 := F0 mt 62 ls [.int (phv sk er k k2)]) rfl ?_
              refine lv_aload_n hx hb dX7_closure_62 rfl (lv_at hl 0 rfl) ?_
              refine xg X hw (C := RX7) (T := TX7) (N := 9) (by decide +kernel) 0 rfl rfl 0 (by decide) rfl (by decide +kernel) rfl dX7_closure_63 ?_
              refine lv_iload_n hx hb dX7_closure_66 rfl (lv_at hl 2 rfl) ?_
              refine lv_iload_n hx hb dX7_closure_67 rfl (lv_at hl 3 rfl) ?_
              refine xcV (n := 2) (As := [.int (nI k2), .int (nI k3)]) (rest := [.int (phv sk er k k2)]) (wc := [(d, .inr (0, [.long (lN m), .ref e0, .ref k0])), (e0, .inl (G.2.1, 61, .inl er)), (k0, .inl (G.2.1, 61, .inl sk))]) (wr := [(xo, .inr (4, [.ref d, .ref i1, .ref i2, .ref g, .ref ru, .ref co, .int ik, .int un, .int tp]))]) X hw (c_X1_phaseFrom l G d e0 k0 m er sk k2 k3 hk2 hk3 (fun q => c42 (by rw [q]))) (C := RX1) gX7_closure_X1_phaseFrom (q0 := 1) rfl rfl rfl ⟨rfl, rfl⟩ (by decide +kernel) ⟨by decide, by decide⟩ rfl hl.1 rfl (Nat.le_of_ble_eq_true rfl) dX7_closure_68 ⟨by decide, by decide⟩ [1, 2, 3] [0] rfl rfl rfl rfl (by decide) (fun r w1 H locs hp hw => ?_)
              obtain ⟨rfl, rfl⟩ := hp
              have hw := hw.sub (ws' := [(xo, .inr (4, [.ref d, .ref i1, .ref i2, .ref g, .ref ru, .ref co, .int ik, .int un, .int tp])), (d, .inr (0, [.long (lN m), .ref e0, .ref k0])), (e0, .inl (G.2.1, 61, .inl er)), (k0, .inl (G.2.1, 61, .inl sk))]) [0, 1, 2, 3] rfl rfl
              refine W.eq (g2 := F0 mt 71 ls [.int (phv sk er k2 k3), .int (phv sk er k k2)]) rfl ?_
              refine lv_iadd hx hb dX7_closure_71 ?_
              refine lv_aload_n hx hb dX7_closure_72 rfl (lv_at hl 0 rfl) ?_
              refine xg X hw (C := RX7) (T := TX7) (N := 9) (by decide +kernel) 0 rfl rfl 0 (by decide) rfl (by decide +kernel) rfl dX7_closure_73 ?_
              refine lv_iload_n hx hb dX7_closure_76 rfl (lv_at hl 3 rfl) ?_
              refine lv_iload_n hx hb dX7_closure_77 rfl (lv_at hl 1 rfl) ?_
              refine xcV (n := 2) (As := [.int (nI k3), .int (nI k)]) (rest := [.int ((phv sk er k k2) + (phv sk er k2 k3))]) (wc := [(d, .inr (0, [.long (lN m), .ref e0, .ref k0])), (e0, .inl (G.2.1, 61, .inl er)), (k0, .inl (G.2.1, 61, .inl sk))]) (wr := [(xo, .inr (4, [.ref d, .ref i1, .ref i2, .ref g, .ref ru, .ref co, .int ik, .int un, .int tp]))]) X hw (c_X1_phaseFrom l G d e0 k0 m er sk k3 k hk3 hk (fun q => c47 (by rw [q]))) (C := RX1) gX7_closure_X1_phaseFrom (q0 := 1) rfl rfl rfl ⟨rfl, rfl⟩ (by decide +kernel) ⟨by decide, by decide⟩ rfl hl.1 rfl (Nat.le_of_ble_eq_true rfl) dX7_closure_78 ⟨by decide, by decide⟩ [1, 2, 3] [0] rfl rfl rfl rfl (by decide) (fun r w1 H locs hp hw => ?_)
              obtain ⟨rfl, rfl⟩ := hp
              have hw := hw.sub (ws' := [(xo, .inr (4, [.ref d, .ref i1, .ref i2, .ref g, .ref ru, .ref co, .int ik, .int un, .int tp])), (d, .inr (0, [.long (lN m), .ref e0, .ref k0])), (e0, .inl (G.2.1, 61, .inl er)), (k0, .inl (G.2.1, 61, .inl sk))]) [0, 1, 2, 3] rfl rfl
              refine W.eq (g2 := F0 mt 81 ls [.int (phv sk er k3 k), .int ((phv sk er k k2) + (phv sk er k2 k3))]) rfl ?_
              refine lv_iadd hx hb dX7_closure_81 ?_
              refine lv_istore (lv' := [(4, .int (((phv sk er k k2) + (phv sk er k2 k3)) + (phv sk er k3 k))), (0, .ref xo), (1, .int (nI k)), (2, .int (nI k2)), (3, .int (nI k3))]) hx hb dX7_closure_82 hl (by decide) rfl (fun ls hl => ?_)
              refine lv_iload hx hb dX7_closure_84 (lv_at hl 0 rfl) ?_
              refine lv_sipush (v := 360) hx hb dX7_closure_86 (by decide) ?_
              refine xcP (n := 2) (As := [.int (((phv sk er k k2) + (phv sk er k2 k3)) + (phv sk er k3 k)), .int 360]) (rest := []) X hw (c_J9_floorMod_7cf53 l G (((phv sk er k k2) + (phv sk er k2 k3)) + (phv sk er k3 k)) 360 (by decide)) gX7_closure_J9_floorMod_7cf53 rfl ⟨rfl, rfl⟩ (by decide +kernel) ⟨by decide, by decide⟩ rfl hl.1 rfl (Nat.le_of_ble_eq_true rfl) dX7_closure_89 ⟨by decide, by decide⟩ (fun r w1 H locs hp hw => ?_)
              obtain rfl := hp
              refine W.eq (g2 := F0 mt 92 ls [.int (fm (((phv sk er k k2) + (phv sk er k2 k3)) + (phv sk er k3 k)) 360)]) rfl ?_
              refine hret _ _ _ _ _ _ dX7_closure_92 hw ?_
              exact ⟨congrArg (fun z => some (Value.int z)) (by simp [clR, hs, hs2, hs3, c37, c42, c47, hck, hck2, hck3]), rfl⟩
            · refine lv_bipush (v := (-5)) hx hb dX7_closure_50 (by decide) ?_
              refine hret _ _ _ _ _ _ dX7_closure_52 hw ?_
              exact ⟨congrArg (fun z => some (Value.int z)) (by simp_all [clR]), rfl⟩
      · have hs3 := bi_f c30
        refine lv_iconst (v := (-1)) hx hb dX7_closure_33 (by decide) ?_
        refine hret _ _ _ _ _ _ dX7_closure_34 hw ?_
        exact ⟨congrArg (fun z => some (Value.int z)) (by unfold clR; rw [if_neg (by first | (rw [hs]; simp; done) | (rw [hs2]; simp; done) | (rw [hs3]; simp; done))]), rfl⟩

set_option maxHeartbeats 4000000 in
set_option maxRecDepth 100000 in
theorem c_X7_left (l : Launch) (G : GG) (xo : Nat) (i1 : Nat) (i2 : Nat) (ru : Nat) (co : Nat) (ik : Int32) (un : Int32) (tp : Int32) (g : Nat) (d : Nat) (e0 : Nat) (k0 : Nat) (m : Nat) (er : Nat → Int32) (sk : Nat → Int32) (x : Int32) (hm : m < 2 ^ 61) : CT l G yX7_left wsX7_left ({ frames := 4, cells := 0, slots := 0, locals := 87 } : Room) [.ref xo, .int x] [(xo, .inr (4, [.ref d, .ref i1, .ref i2, .ref g, .ref ru, .ref co, .int ik, .int un, .int tp])), (d, .inr (0, [.long (lN m), .ref e0, .ref k0])), (e0, .inl (G.2.1, 61, .inl er)), (k0, .inl (G.2.1, 61, .inl sk))] (fun r w => r = some (.int (leftR m x)) ∧ w = [(xo, .inr (4, [.ref d, .ref i1, .ref i2, .ref g, .ref ru, .ref co, .int ik, .int un, .int tp])), (d, .inr (0, [.long (lN m), .ref e0, .ref k0])), (e0, .inl (G.2.1, 61, .inl er)), (k0, .inl (G.2.1, 61, .inl sk))]) 0 0 := by
  refine ct_i (cc := cX7_left) (maxL := 2) (by decide +kernel) rfl (Nat.le_of_ble_eq_true rfl) ?_
  intro p e s mt below meth c A Q X hw hret ls hl
  obtain ⟨hx, hb, -⟩ := id X
  have hl : lv_has ls 2 [(0, .ref xo), (1, .int x)] := hl
  refine lv_aload_n hx hb dX7_left_0 rfl (lv_at hl 0 rfl) ?_
  refine xg X hw (C := RX7) (T := TX7) (N := 9) (by decide +kernel) 0 rfl rfl 0 (by decide) rfl (by decide +kernel) rfl dX7_left_1 ?_
  refine lv_iload_n hx hb dX7_left_4 rfl (lv_at hl 1 rfl) ?_
  refine xcV (n := 1) (As := [.int x]) (rest := []) (wc := [(d, .inr (0, [.long (lN m), .ref e0, .ref k0])), (e0, .inl (G.2.1, 61, .inl er)), (k0, .inl (G.2.1, 61, .inl sk))]) (wr := [(xo, .inr (4, [.ref d, .ref i1, .ref i2, .ref g, .ref ru, .ref co, .int ik, .int un, .int tp]))]) X hw (c_X1_standsAt l G d e0 k0 m er sk x hm) (C := RX1) gX7_left_X1_standsAt (q0 := 1) rfl rfl rfl ⟨rfl, rfl⟩ (by decide +kernel) ⟨by decide, by decide⟩ rfl hl.1 rfl (Nat.le_of_ble_eq_true rfl) dX7_left_5 ⟨by decide, by decide⟩ [1, 2, 3] [0] rfl rfl rfl rfl (by decide) (fun r w1 H locs hp hw => ?_)
  obtain ⟨rfl, rfl⟩ := hp
  have hw := hw.sub (ws' := [(xo, .inr (4, [.ref d, .ref i1, .ref i2, .ref g, .ref ru, .ref co, .int ik, .int un, .int tp])), (d, .inr (0, [.long (lN m), .ref e0, .ref k0])), (e0, .inl (G.2.1, 61, .inl er)), (k0, .inl (G.2.1, 61, .inl sk))]) [0, 1, 2, 3] rfl rfl
  refine W.eq (g2 := F0 mt 8 ls [.int (bi (stn m x))]) rfl ?_
  refine lv_if_ne (tgt := 13) hx hb dX7_left_8 (by decide) (fun c8 => ?_) (fun c8 => ?_)
  · have hs := bi_t c8
    refine lv_aload_n hx hb dX7_left_13 rfl (lv_at hl 0 rfl) ?_
    refine xg X hw (C := RX7) (T := TX7) (N := 9) (by decide +kernel) 0 rfl rfl 0 (by decide) rfl (by decide +kernel) rfl dX7_left_14 ?_
    refine xcV (n := 0) (As := []) (rest := []) (wc := [(d, .inr (0, [.long (lN m), .ref e0, .ref k0])), (e0, .inl (G.2.1, 61, .inl er)), (k0, .inl (G.2.1, 61, .inl sk))]) (wr := [(xo, .inr (4, [.ref d, .ref i1, .ref i2, .ref g, .ref ru, .ref co, .int ik, .int un, .int tp]))]) X hw (c_X1_line l G d e0 k0 m er sk ) (C := RX1) gX7_left_X1_line (q0 := 1) rfl rfl rfl ⟨rfl, rfl⟩ (by decide +kernel) ⟨by decide, by decide⟩ rfl hl.1 rfl (Nat.le_of_ble_eq_true rfl) dX7_left_17 ⟨by decide, by decide⟩ [1, 2, 3] [0] rfl rfl rfl rfl (by decide) (fun r w1 H locs hp hw => ?_)
    obtain ⟨rfl, rfl⟩ := hp
    have hw := hw.sub (ws' := [(xo, .inr (4, [.ref d, .ref i1, .ref i2, .ref g, .ref ru, .ref co, .int ik, .int un, .int tp])), (d, .inr (0, [.long (lN m), .ref e0, .ref k0])), (e0, .inl (G.2.1, 61, .inl er)), (k0, .inl (G.2.1, 61, .inl sk))]) [0, 1, 2, 3] rfl rfl
    refine W.eq (g2 := F0 mt 20 ls [.long (lN m)]) rfl ?_
    refine lv_iload_n hx hb dX7_left_20 rfl (lv_at hl 1 rfl) ?_
    refine xcP (n := 2) (As := [.long (lN m), .int x]) (rest := []) X hw (c_X3_reachWithout l G m x hm) gX7_left_X3_reachWithout rfl ⟨rfl, rfl⟩ (by decide +kernel) ⟨by decide, by decide⟩ rfl hl.1 rfl (Nat.le_of_ble_eq_true rfl) dX7_left_21 ⟨by decide, by decide⟩ (fun r w1 H locs hp hw => ?_)
    obtain rfl := hp
    refine W.eq (g2 := F0 mt 24 ls [.int (nI (reN (woN m (bitO x))))]) rfl ?_
    refine hret _ _ _ _ _ _ dX7_left_24 hw ?_
    exact ⟨congrArg (fun z => some (Value.int z)) (by simp [leftR, hs]), rfl⟩
  · have hs := bi_f c8
    refine lv_iconst (v := (-1)) hx hb dX7_left_11 (by decide) ?_
    refine hret _ _ _ _ _ _ dX7_left_12 hw ?_
    exact ⟨congrArg (fun z => some (Value.int z)) (by simp [leftR, hs]), rfl⟩
