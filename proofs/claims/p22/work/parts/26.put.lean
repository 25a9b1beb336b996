set_option maxHeartbeats 4000000 in
set_option maxRecDepth 100000 in
theorem c_X7_change (l : Launch) (G : GG) (xo : Nat) (i1 : Nat) (i2 : Nat) (ru : Nat) (co : Nat) (ik : Int32) (un : Int32) (tp : Int32) (d : Nat) (e0 : Nat) (k0 : Nat) (m : Nat) (er : Nat → Int32) (sk : Nat → Int32) (g : Nat) (s0 : Nat) (b0 : Nat) (st : Nat → Int32) (be : Nat → Int32) (nx : Nat) (cn : Nat) (k : Nat) (v : Int32) (hk : k ≤ 60) (hn : nx < 16) (hc : cn ≤ 16) : CT l G yX7_change wsX7_change ({ frames := 3, cells := 0, slots := 0, locals := 65 } : Room) [.ref xo, .int (nI k), .int v] [(xo, .inr (4, [.ref d, .ref i1, .ref i2, .ref g, .ref ru, .ref co, .int ik, .int un, .int tp])), (d, .inr (0, [.long (lN m), .ref e0, .ref k0])), (e0, .inl (G.2.1, 61, .inl er)), (k0, .inl (G.2.1, 61, .inl sk)), (g, .inr (2, [.ref s0, .ref b0, .int (nI nx), .int (nI cn)])), (s0, .inl (G.2.1, 16, .inl st)), (b0, .inl (G.2.1, 16, .inl be))] (fun r w => r = none ∧ w = [(xo, .inr (4, [.ref d, .ref i1, .ref i2, .ref g, .ref ru, .ref co, .int ik, .int un, .int tp])), (d, .inr (0, [.long (lN (bcm m k v)), .ref e0, .ref k0])), (e0, .inl (G.2.1, 61, .inl (upd er k v))), (k0, .inl (G.2.1, 61, .inl sk)), (g, .inr (2, [.ref s0, .ref b0, .int (nI ((nx + 1) % 16)), .int (nI (lgc cn))])), (s0, .inl (G.2.1, 16, .inl (upd st nx (nI k)))), (b0, .inl (G.2.1, 16, .inl (upd be nx (er k))))]) 0 0 := by
  refine ct_v (cc := cX7_change) (maxL := 3) (by decide +kernel) rfl (Nat.le_of_ble_eq_true rfl) ?_
  intro p e s mt below meth c A Q X hw hret ls hl
  obtain ⟨hx, hb, -⟩ := id X
  have hl : lv_has ls 3 [(0, .ref xo), (1, .int (nI k)), (2, .int v)] := hl
  refine lv_aload_n hx hb dX7_change_0 rfl (lv_at hl 0 rfl) ?_
  refine xg X hw (C := RX7) (T := TX7) (N := 9) (by decide +kernel) 0 rfl rfl 3 (by decide) rfl (by decide +kernel) rfl dX7_change_1 ?_
  refine lv_iload_n hx hb dX7_change_4 rfl (lv_at hl 1 rfl) ?_
  refine lv_aload_n hx hb dX7_change_5 rfl (lv_at hl 0 rfl) ?_
  refine xg X hw (C := RX7) (T := TX7) (N := 9) (by decide +kernel) 0 rfl rfl 0 (by decide) rfl (by decide +kernel) rfl dX7_change_6 ?_
  refine lv_iload_n hx hb dX7_change_9 rfl (lv_at hl 1 rfl) ?_
  refine xcV (n := 1) (As := [.int (nI k)]) (rest := [.int (nI k), .ref g]) (wc := [(d, .inr (0, [.long (lN m), .ref e0, .ref k0])), (e0, .inl (G.2.1, 61, .inl er)), (k0, .inl (G.2.1, 61, .inl sk))]) (wr := [(xo, .inr (4, [.ref d, .ref i1, .ref i2, .ref g, .ref ru, .ref co, .int ik, .int un, .int tp])), (g, .inr (2, [.ref s0, .ref b0, .int (nI nx), .int (nI cn)])), (s0, .inl (G.2.1, 16, .inl st)), (b0, .inl (G.2.1, 16, .inl be))]) X hw (c_X1_errorAt l G d e0 k0 m er sk (nI k) ) (C := RX1) gX7_change_X1_errorAt (q0 := 1) rfl rfl rfl ⟨rfl, rfl⟩ (by decide +kernel) ⟨by decide, by decide⟩ rfl hl.1 rfl (Nat.le_of_ble_eq_true rfl) dX7_change_10 ⟨by decide, by decide⟩ [1, 2, 3] [0, 4, 5, 6] rfl rfl rfl rfl (by decide) (fun r w1 H locs hp hw => ?_)
  obtain ⟨rfl, rfl⟩ := hp
  have hw := hw.sub (ws' := [(xo, .inr (4, [.ref d, .ref i1, .ref i2, .ref g, .ref ru, .ref co, .int ik, .int un, .int tp])), (d, .inr (0, [.long (lN m), .ref e0, .ref k0])), (e0, .inl (G.2.1, 61, .inl er)), (k0, .inl (G.2.1, 61, .inl sk)), (g, .inr (2, [.ref s0, .ref b0, .int (nI nx), .int (nI cn)])), (s0, .inl (G.2.1, 16, .inl st)), (b0, .inl (G.2.1, 16, .inl be))]) [0, 4, 5, 6, 1, 2, 3] rfl rfl
  refine W.eq (g2 := F0 mt 13 ls [.int (erX er (nI k)), .int (nI k), .ref g]) rfl ?_
  refine x_cvi (y := er k) (by exact erX_nI hk) ?_
  refine xcV (n := 2) (As := [.int (nI k), .int (er k)]) (rest := []) (wc := [(g, .inr (2, [.ref s0, .ref b0, .int (nI nx), .int (nI cn)])), (s0, .inl (G.2.1, 16, .inl st)), (b0, .inl (G.2.1, 16, .inl be))]) (wr := [(xo, .inr (4, [.ref d, .ref i1, .ref i2, .ref g, .ref ru, .ref co, .int ik, .int un, .int tp])), (d, .inr (0, [.long (lN m), .ref e0, .ref k0])), (e0, .inl (G.2.1, 61, .inl er)), (k0, .inl (G.2.1, 61, .inl sk))]) X hw (c_X4_add l G g s0 b0 st be nx cn (nI k) (er k) hn hc) (C := RX4) gX7_change_X4_add (q0 := 4) rfl rfl rfl ⟨rfl, rfl⟩ (by decide +kernel) ⟨by decide, by decide⟩ rfl hl.1 rfl (Nat.le_of_ble_eq_true rfl) dX7_change_13 ⟨by decide, by decide⟩ [4, 5, 6] [0, 1, 2, 3] rfl rfl rfl rfl (by decide) (fun r w1 H locs hp hw => ?_)
  obtain ⟨rfl, rfl⟩ := hp
  have hw := hw.sub (ws' := [(xo, .inr (4, [.ref d, .ref i1, .ref i2, .ref g, .ref ru, .ref co, .int ik, .int un, .int tp])), (d, .inr (0, [.long (lN m), .ref e0, .ref k0])), (e0, .inl (G.2.1, 61, .inl er)), (k0, .inl (G.2.1, 61, .inl sk)), (g, .inr (2, [.ref s0, .ref b0, .int (nI ((nx + 1) % 16)), .int (nI (lgc cn))])), (s0, .inl (G.2.1, 16, .inl (upd st nx (nI k)))), (b0, .inl (G.2.1, 16, .inl (upd be nx (er k))))]) [0, 1, 2, 3, 4, 5, 6] rfl rfl
  refine W.eq (g2 := F0 mt 16 ls []) rfl ?_
  refine lv_aload_n hx hb dX7_change_16 rfl (lv_at hl 0 rfl) ?_
  refine xg X hw (C := RX7) (T := TX7) (N := 9) (by decide +kernel) 0 rfl rfl 0 (by decide) rfl (by decide +kernel) rfl dX7_change_17 ?_
  refine lv_iload_n hx hb dX7_change_20 rfl (lv_at hl 1 rfl) ?_
  refine lv_iload_n hx hb dX7_change_21 rfl (lv_at hl 2 rfl) ?_
  refine xcV (n := 2) (As := [.int (nI k), .int v]) (rest := []) (wc := [(d, .inr (0, [.long (lN m), .ref e0, .ref k0])), (e0, .inl (G.2.1, 61, .inl er)), (k0, .inl (G.2.1, 61, .inl sk))]) (wr := [(xo, .inr (4, [.ref d, .ref i1, .ref i2, .ref g, .ref ru, .ref co, .int ik, .int un, .int tp])), (g, .inr (2, [.ref s0, .ref b0, .int (nI ((nx + 1) % 16)), .int (nI (lgc cn))])), (s0, .inl (G.2.1, 16, .inl (upd st nx (nI k)))), (b0, .inl (G.2.1, 16, .inl (upd be nx (er k))))]) X hw (c_X1_become l G d e0 k0 m er sk k v hk) (C := RX1) gX7_change_X1_become (q0 := 1) rfl rfl rfl ⟨rfl, rfl⟩ (by decide +kernel) ⟨by decide, by decide⟩ rfl hl.1 rfl (Nat.le_of_ble_eq_true rfl) dX7_change_22 ⟨by decide, by decide⟩ [1, 2, 3] [0, 4, 5, 6] rfl rfl rfl rfl (by decide) (fun r w1 H locs hp hw => ?_)
  obtain ⟨rfl, rfl⟩ := hp
  have hw := hw.sub (ws' := [(xo, .inr (4, [.ref d, .ref i1, .ref i2, .ref g, .ref ru, .ref co, .int ik, .int un, .int tp])), (d, .inr (0, [.long (lN (bcm m k v)), .ref e0, .ref k0])), (e0, .inl (G.2.1, 61, .inl (upd er k v))), (k0, .inl (G.2.1, 61, .inl sk)), (g, .inr (2, [.ref s0, .ref b0, .int (nI ((nx + 1) % 16)), .int (nI (lgc cn))])), (s0, .inl (G.2.1, 16, .inl (upd st nx (nI k)))), (b0, .inl (G.2.1, 16, .inl (upd be nx (er k))))]) [0, 4, 5, 6, 1, 2, 3] rfl rfl
  refine W.eq (g2 := F0 mt 25 ls []) rfl ?_
  refine hret _ _ _ _ _ dX7_change_25 hw ?_
  exact ⟨rfl, rfl⟩

set_option maxHeartbeats 4000000 in
set_option maxRecDepth 100000 in
theorem c_X7_put (l : Launch) (G : GG) (xo : Nat) (i1 : Nat) (i2 : Nat) (ru : Nat) (co : Nat) (ik : Int32) (un : Int32) (tp : Int32) (d : Nat) (e0 : Nat) (k0 : Nat) (m : Nat) (er : Nat → Int32) (sk : Nat → Int32) (g : Nat) (s0 : Nat) (b0 : Nat) (st : Nat → Int32) (be : Nat → Int32) (nx : Nat) (cn : Nat) (x : Int32) (hm : m < 2 ^ 61) (hn : nx < 16) (hc : cn ≤ 16) : CT l G yX7_put wsX7_put ({ frames := 4, cells := 0, slots := 0, locals := 87 } : Room) [.ref xo, .int x] [(xo, .inr (4, [.ref d, .ref i1, .ref i2, .ref g, .ref ru, .ref co, .int ik, .int un, .int tp])), (d, .inr (0, [.long (lN m), .ref e0, .ref k0])), (e0, .inl (G.2.1, 61, .inl er)), (k0, .inl (G.2.1, 61, .inl sk)), (g, .inr (2, [.ref s0, .ref b0, .int (nI nx), .int (nI cn)])), (s0, .inl (G.2.1, 16, .inl st)), (b0, .inl (G.2.1, 16, .inl be))] (fun r w => r = some (.int (putR m x)) ∧ ((putOk m x = false ∧ w = [(xo, .inr (4, [.ref d, .ref i1, .ref i2, .ref g, .ref ru, .ref co, .int ik, .int un, .int tp])), (d, .inr (0, [.long (lN m), .ref e0, .ref k0])), (e0, .inl (G.2.1, 61, .inl er)), (k0, .inl (G.2.1, 61, .inl sk)), (g, .inr (2, [.ref s0, .ref b0, .int (nI nx), .int (nI cn)])), (s0, .inl (G.2.1, 16, .inl st)), (b0, .inl (G.2.1, 16, .inl be))]) ∨ (putOk m x = true ∧ w = [(xo, .inr (4, [.ref d, .ref i1, .ref i2, .ref g, .ref ru, .ref co, .int ik, .int un, .int tp])), (d, .inr (0, [.long (lN (bcm m x.toNatClampNeg 0)), .ref e0, .ref k0])), (e0, .inl (G.2.1, 61, .inl (upd er x.toNatClampNeg 0))), (k0, .inl (G.2.1, 61, .inl sk)), (g, .inr (2, [.ref s0, .ref b0, .int (nI ((nx + 1) % 16)), .int (nI (lgc cn))])), (s0, .inl (G.2.1, 16, .inl (upd st nx (nI x.toNatClampNeg)))), (b0, .inl (G.2.1, 16, .inl (upd be nx (er x.toNatClampNeg))))]))) 0 0 := by
  refine ct_i (cc := cX7_put) (maxL := 2) (by decide +kernel) rfl (Nat.le_of_ble_eq_true rfl) ?_
  intro p e s mt below meth c A Q X hw hret ls hl
  obtain ⟨hx, hb, -⟩ := id X
  have hl : lv_has ls 2 [(0, .ref xo), (1, .int x)] := hl
  refine lv_iload_n hx hb dX7_put_0 rfl (lv_at hl 1 rfl) ?_
  refine xcP (n := 1) (As := [.int x]) (rest := []) X hw (c_X7_isStation l G x ) gX7_put_X7_isStation rfl ⟨rfl, rfl⟩ (by decide +kernel) ⟨by decide, by decide⟩ rfl hl.1 rfl (Nat.le_of_ble_eq_true rfl) dX7_put_1 ⟨by decide, by decide⟩ (fun r w1 H locs hp hw => ?_)
  obtain rfl := hp
  refine W.eq (g2 := F0 mt 4 ls [.int (bi (inS x))]) rfl ?_
  refine lv_if_ne (tgt := 10) hx hb dX7_put_4 (by decide) (fun c4 => ?_) (fun c4 => ?_)
  · have hi := bi_t c4
    obtain ⟨k, hk, rfl⟩ := inS_of hi
    have hck := cl_k hk
    refine lv_aload_n hx hb dX7_put_10 rfl (lv_at hl 0 rfl) ?_
    refine xg X hw (C := RX7) (T := TX7) (N := 9) (by decide +kernel) 0 rfl rfl 0 (by decide) rfl (by decide +kernel) rfl dX7_put_11 ?_
    refine lv_iload_n hx hb dX7_put_14 rfl (lv_at hl 1 rfl) ?_
    refine xcV (n := 1) (As := [.int (nI k)]) (rest := []) (wc := [(d, .inr (0, [.long (lN m), .ref e0, .ref k0])), (e0, .inl (G.2.1, 61, .inl er)), (k0, .inl (G.2.1, 61, .inl sk))]) (wr := [(xo, .inr (4, [.ref d, .ref i1, .ref i2, .ref g, .ref ru, .ref co, .int ik, .int un, .int tp])), (g, .inr (2, [.ref s0, .ref b0, .int (nI nx), .int (nI cn)])), (s0, .inl (G.2.1, 16, .inl st)), (b0, .inl (G.2.1, 16, .inl be))]) X hw (c_X1_standsAt l G d e0 k0 m er sk (nI k) hm) (C := RX1) gX7_put_X1_standsAt (q0 := 1) rfl rfl rfl ⟨rfl, rfl⟩ (by decide +kernel) ⟨by decide, by decide⟩ rfl hl.1 rfl (Nat.le_of_ble_eq_true rfl) dX7_put_15 ⟨by decide, by decide⟩ [1, 2, 3] [0, 4, 5, 6] rfl rfl rfl rfl (by decide) (fun r w1 H locs hp hw => ?_)
    obtain ⟨rfl, rfl⟩ := hp
    have hw := hw.sub (ws' := [(xo, .inr (4, [.ref d, .ref i1, .ref i2, .ref g, .ref ru, .ref co, .int ik, .int un, .int tp])), (d, .inr (0, [.long (lN m), .ref e0, .ref k0])), (e0, .inl (G.2.1, 61, .inl er)), (k0, .inl (G.2.1, 61, .inl sk)), (g, .inr (2, [.ref s0, .ref b0, .int (nI nx), .int (nI cn)])), (s0, .inl (G.2.1, 16, .inl st)), (b0, .inl (G.2.1, 16, .inl be))]) [0, 4, 5, 6, 1, 2, 3] rfl rfl
    refine W.eq (g2 := F0 mt 18 ls [.int (bi (stn m (nI k)))]) rfl ?_
    refine lv_if_eq (tgt := 24) hx hb dX7_put_18 (by decide) (fun c18 => ?_) (fun c18 => ?_)
    · have hs := bi_f c18
      refine lv_aload_n hx hb dX7_put_24 rfl (lv_at hl 0 rfl) ?_
      refine xg X hw (C := RX7) (T := TX7) (N := 9) (by decide +kernel) 0 rfl rfl 0 (by decide) rfl (by decide +kernel) rfl dX7_put_25 ?_
      refine xcV (n := 0) (As := []) (rest := []) (wc := [(d, .inr (0, [.long (lN m), .ref e0, .ref k0])), (e0, .inl (G.2.1, 61, .inl er)), (k0, .inl (G.2.1, 61, .inl sk))]) (wr := [(xo, .inr (4, [.ref d, .ref i1, .ref i2, .ref g, .ref ru, .ref co, .int ik, .int un, .int tp])), (g, .inr (2, [.ref s0, .ref b0, .int (nI nx), .int (nI cn)])), (s0, .inl (G.2.1, 16, .inl st)), (b0, .inl (G.2.1, 16, .inl be))]) X hw (c_X1_count l G d e0 k0 m er sk hm) (C := RX1) gX7_put_X1_count (q0 := 1) rfl rfl rfl ⟨rfl, rfl⟩ (by decide +kernel) ⟨by decide, by decide⟩ rfl hl.1 rfl (Nat.le_of_ble_eq_true rfl) dX7_put_28 ⟨by decide, by decide⟩ [1, 2, 3] [0, 4, 5, 6] rfl rfl rfl rfl (by decide) (fun r w1 H locs hp hw => ?_)
      obtain ⟨rfl, rfl⟩ := hp
      have hw := hw.sub (ws' := [(xo, .inr (4, [.ref d, .ref i1, .ref i2, .ref g, .ref ru, .ref co, .int ik, .int un, .int tp])), (d, .inr (0, [.long (lN m), .ref e0, .ref k0])), (e0, .inl (G.2.1, 61, .inl er)), (k0, .inl (G.2.1, 61, .inl sk)), (g, .inr (2, [.ref s0, .ref b0, .int (nI nx), .int (nI cn)])), (s0, .inl (G.2.1, 16, .inl st)), (b0, .inl (G.2.1, 16, .inl be))]) [0, 4, 5, 6, 1, 2, 3] rfl rfl
      refine W.eq (g2 := F0 mt 31 ls [.int (nI (pcN 64 m))]) rfl ?_
      refine lv_bipush (v := 12) hx hb dX7_put_31 (by decide) ?_
      refine lv_icmp_lt (tgt := 39) hx hb dX7_put_33 (by decide) (fun c33 => ?_) (fun c33 => ?_)
      · have hp : pcN 64 m < 12 := i_lt (b := 12) (Nat.lt_of_le_of_lt (pcN_le _ _) (by decide)) (by decide) c33
        refine lv_aload_n hx hb dX7_put_39 rfl (lv_at hl 0 rfl) ?_
        refine lv_iload_n hx hb dX7_put_40 rfl (lv_at hl 1 rfl) ?_
        refine lv_iconst (v := 0) hx hb dX7_put_41 (by decide) ?_
        refine xcV (n := 2) (As := [.int (nI k), .int 0]) (rest := []) (wc := [(xo, .inr (4, [.ref d, .ref i1, .ref i2, .ref g, .ref ru, .ref co, .int ik, .int un, .int tp])), (d, .inr (0, [.long (lN m), .ref e0, .ref k0])), (e0, .inl (G.2.1, 61, .inl er)), (k0, .inl (G.2.1, 61, .inl sk)), (g, .inr (2, [.ref s0, .ref b0, .int (nI nx), .int (nI cn)])), (s0, .inl (G.2.1, 16, .inl st)), (b0, .inl (G.2.1, 16, .inl be))]) (wr := []) X hw (c_X7_change l G xo i1 i2 ru co ik un tp d e0 k0 m er sk g s0 b0 st be nx cn k 0 hk hn hc) (C := RX7) gX7_put_X7_change (q0 := 0) rfl rfl rfl ⟨rfl, rfl⟩ (by decide +kernel) ⟨by decide, by decide⟩ rfl hl.1 rfl (Nat.le_of_ble_eq_true rfl) dX7_put_42 ⟨by decide, by decide⟩ [0, 1, 2, 3, 4, 5, 6] [] rfl rfl rfl rfl (by decide) (fun r w1 H locs hp hw => ?_)
        obtain ⟨rfl, rfl⟩ := hp
        have hw := hw.sub (ws' := [(xo, .inr (4, [.ref d, .ref i1, .ref i2, .ref g, .ref ru, .ref co, .int ik, .int un, .int tp])), (d, .inr (0, [.long (lN (bcm m k 0)), .ref e0, .ref k0])), (e0, .inl (G.2.1, 61, .inl (upd er k 0))), (k0, .inl (G.2.1, 61, .inl sk)), (g, .inr (2, [.ref s0, .ref b0, .int (nI ((nx + 1) % 16)), .int (nI (lgc cn))])), (s0, .inl (G.2.1, 16, .inl (upd st nx (nI k)))), (b0, .inl (G.2.1, 16, .inl (upd be nx (er k))))]) [0, 1, 2, 3, 4, 5, 6] rfl rfl
        refine W.eq (g2 := F0 mt 45 ls []) rfl ?_
        refine lv_aload_n hx hb dX7_put_45 rfl (lv_at hl 0 rfl) ?_
        refine xg X hw (C := RX7) (T := TX7) (N := 9) (by decide +kernel) 0 rfl rfl 0 (by decide) rfl (by decide +kernel) rfl dX7_put_46 ?_
        refine xcV (n := 0) (As := []) (rest := []) (wc := [(d, .inr (0, [.long (lN (bcm m k 0)), .ref e0, .ref k0])), (e0, .inl (G.2.1, 61, .inl (upd er k 0))), (k0, .inl (G.2.1, 61, .inl sk))]) (wr := [(xo, .inr (4, [.ref d, .ref i1, .ref i2, .ref g, .ref ru, .ref co, .int ik, .int un, .int tp])), (g, .inr (2, [.ref s0, .ref b0, .int (nI ((nx + 1) % 16)), .int (nI (lgc cn))])), (s0, .inl (G.2.1, 16, .inl (upd st nx (nI k)))), (b0, .inl (G.2.1, 16, .inl (upd be nx (er k))))]) X hw (c_X1_count l G d e0 k0 (bcm m k 0) (upd er k 0) sk (bcm_lt hm hk)) (C := RX1) gX7_put_X1_count (q0 := 1) rfl rfl rfl ⟨rfl, rfl⟩ (by decide +kernel) ⟨by decide, by decide⟩ rfl hl.1 rfl (Nat.le_of_ble_eq_true rfl) dX7_put_49 ⟨by decide, by decide⟩ [1, 2, 3] [0, 4, 5, 6] rfl rfl rfl rfl (by decide) (fun r w1 H locs hp hw => ?_)
        obtain ⟨rfl, rfl⟩ := hp
        have hw := hw.sub (ws' := [(xo, .inr (4, [.ref d, .ref i1, .ref i2, .ref g, .ref ru, .ref co, .int ik, .int un, .int tp])), (d, .inr (0, [.long (lN (bcm m k 0)), .ref e0, .ref k0])), (e0, .inl (G.2.1, 61, .inl (upd er k 0))), (k0, .inl (G.2.1, 61, .inl sk)), (g, .inr (2, [.ref s0, .ref b0, .int (nI ((nx + 1) % 16)), .int (nI (lgc cn))])), (s0, .inl (G.2.1, 16, .inl (upd st nx (nI k)))), (b0, .inl (G.2.1, 16, .inl (upd be nx (er k))))]) [0, 4, 5, 6, 1, 2, 3] rfl rfl
        refine W.eq (g2 := F0 mt 52 ls [.int (nI (pcN 64 (bcm m k 0)))]) rfl ?_
        refine hret _ _ _ _ _ _ dX7_put_52 hw ?_
        refine ⟨congrArg (fun z => some (Value.int z)) (by simp [putR, hi, hs, hp, hck]), Or.inr ⟨by simp [putOk, hi, hs, hp], ?_⟩⟩
        rw [hck]
      · have hp : ¬ pcN 64 m < 12 := Nat.not_lt.mpr (i_nlt (b := 12) (Nat.lt_of_le_of_lt (pcN_le _ _) (by decide)) (by decide) c33)
        refine lv_bipush (v := (-4)) hx hb dX7_put_36 (by decide) ?_
        refine hret _ _ _ _ _ _ dX7_put_38 hw ?_
        exact ⟨congrArg (fun z => some (Value.int z)) (by simp [putR, hi, hs, hp]), Or.inl ⟨by simp [putOk, hi, hs, hp], rfl⟩⟩
    · have hs := bi_t c18
      refine lv_bipush (v := (-5)) hx hb dX7_put_21 (by decide) ?_
      refine hret _ _ _ _ _ _ dX7_put_23 hw ?_
      exact ⟨congrArg (fun z => some (Value.int z)) (by simp [putR, hi, hs]), Or.inl ⟨by simp [putOk, hi, hs], rfl⟩⟩
  · have hi := bi_f c4
    refine lv_bipush (v := (-2)) hx hb dX7_put_7 (by decide) ?_
    refine hret _ _ _ _ _ _ dX7_put_9 hw ?_
    exact ⟨congrArg (fun z => some (Value.int z)) (by simp [putR, hi]), Or.inl ⟨by simp [putOk, hi], rfl⟩⟩

set_option maxHeartbeats 4000000 in
set_option maxRecDepth 100000 in
theorem c_X7_lift (l : Launch) (G : GG) (xo : Nat) (i1 : Nat) (i2 : Nat) (ru : Nat) (co : Nat) (ik : Int32) (un : Int32) (tp : Int32) (d : Nat) (e0 : Nat) (k0 : Nat) (m : Nat) (er : Nat → Int32) (sk : Nat → Int32) (g : Nat) (s0 : Nat) (b0 : Nat) (st : Nat → Int32) (be : Nat → Int32) (nx : Nat) (cn : Nat) (x : Int32) (hm : m < 2 ^ 61) (hn : nx < 16) (hc : cn ≤ 16) : CT l G yX7_lift wsX7_lift ({ frames := 4, cells := 0, slots := 0, locals := 87 } : Room) [.ref xo, .int x] [(xo, .inr (4, [.ref d, .ref i1, .ref i2, .ref g, .ref ru, .ref co, .int ik, .int un, .int tp])), (d, .inr (0, [.long (lN m), .ref e0, .ref k0])), (e0, .inl (G.2.1, 61, .inl er)), (k0, .inl (G.2.1, 61, .inl sk)), (g, .inr (2, [.ref s0, .ref b0, .int (nI nx), .int (nI cn)])), (s0, .inl (G.2.1, 16, .inl st)), (b0, .inl (G.2.1, 16, .inl be))] (fun r w => r = some (.int (liftR m x)) ∧ ((stn m x = false ∧ w = [(xo, .inr (4, [.ref d, .ref i1, .ref i2, .ref g, .ref ru, .ref co, .int ik, .int un, .int tp])), (d, .inr (0, [.long (lN m), .ref e0, .ref k0])), (e0, .inl (G.2.1, 61, .inl er)), (k0, .inl (G.2.1, 61, .inl sk)), (g, .inr (2, [.ref s0, .ref b0, .int (nI nx), .int (nI cn)])), (s0, .inl (G.2.1, 16, .inl st)), (b0, .inl (G.2.1, 16, .inl be))]) ∨ (stn m x = true ∧ w = [(xo, .inr (4, [.ref d, .ref i1, .ref i2, .ref g, .ref ru, .ref co, .int ik, .int un, .int tp])), (d, .inr (0, [.long (lN (bcm m x.toNatClampNeg (-6))), .ref e0, .ref k0])), (e0, .inl (G.2.1, 61, .inl (upd er x.toNatClampNeg (-6)))), (k0, .inl (G.2.1, 61, .inl sk)), (g, .inr (2, [.ref s0, .ref b0, .int (nI ((nx + 1) % 16)), .int (nI (lgc cn))])), (s0, .inl (G.2.1, 16, .inl (upd st nx (nI x.toNatClampNeg)))), (b0, .inl (G.2.1, 16, .inl (upd be nx (er x.toNatClampNeg))))]))) 0 0 := by
  refine ct_i (cc := cX7_lift) (maxL := 2) (by decide +kernel) rfl (Nat.le_of_ble_eq_true rfl) ?_
  intro p e s mt below meth c A Q X hw hret ls hl
  obtain ⟨hx, hb, -⟩ := id X
  have hl : lv_has ls 2 [(0, .ref xo), (1, .int x)] := hl
  refine lv_aload_n hx hb dX7_lift_0 rfl (lv_at hl 0 rfl) ?_
  refine xg X hw (C := RX7) (T := TX7) (N := 9) (by decide +kernel) 0 rfl rfl 0 (by decide) rfl (by decide +kernel) rfl dX7_lift_1 ?_
  refine lv_iload_n hx hb dX7_lift_4 rfl (lv_at hl 1 rfl) ?_
  refine xcV (n := 1) (As := [.int x]) (rest := []) (wc := [(d, .inr (0, [.long (lN m), .ref e0, .ref k0])), (e0, .inl (G.2.1, 61, .inl er)), (k0, .inl (G.2.1, 61, .inl sk))]) (wr := [(xo, .inr (4, [.ref d, .ref i1, .ref i2, .ref g, .ref ru, .ref co, .int ik, .int un, .int tp])), (g, .inr (2, [.ref s0, .ref b0, .int (nI nx), .int (nI cn)])), (s0, .inl (G.2.1, 16, .inl st)), (b0, .inl (G.2.1, 16, .inl be))]) X hw (c_X1_standsAt l G d e0 k0 m er sk x hm) (C := RX1) gX7_lift_X1_standsAt (q0 := 1) rfl rfl rfl ⟨rfl, rfl⟩ (by decide +kernel) ⟨by decide, by decide⟩ rfl hl.1 rfl (Nat.le_of_ble_eq_true rfl) dX7_lift_5 ⟨by decide, by decide⟩ [1, 2, 3] [0, 4, 5, 6] rfl rfl rfl rfl (by decide) (fun r w1 H locs hp hw => ?_)
  obtain ⟨rfl, rfl⟩ := hp
  have hw := hw.sub (ws' := [(xo, .inr (4, [.ref d, .ref i1, .ref i2, .ref g, .ref ru, .ref co, .int ik, .int un, .int tp])), (d, .inr (0, [.long (lN m), .ref e0, .ref k0])), (e0, .inl (G.2.1, 61, .inl er)), (k0, .inl (G.2.1, 61, .inl sk)), (g, .inr (2, [.ref s0, .ref b0, .int (nI nx), .int (nI cn)])), (s0, .inl (G.2.1, 16, .inl st)), (b0, .inl (G.2.1, 16, .inl be))]) [0, 4, 5, 6, 1, 2, 3] rfl rfl
  refine W.eq (g2 := F0 mt 8 ls [.int (bi (stn m x))]) rfl ?_
  refine lv_if_ne (tgt := 13) hx hb dX7_lift_8 (by decide) (fun c8 => ?_) (fun c8 => ?_)
  · have hs := bi_t c8
    obtain ⟨k, hk, rfl, hbk⟩ := stn_in hs
    have hck := cl_k hk
    refine lv_aload_n hx hb dX7_lift_13 rfl (lv_at hl 0 rfl) ?_
    refine lv_iload_n hx hb dX7_lift_14 rfl (lv_at hl 1 rfl) ?_
    refine lv_bipush (v := (-6)) hx hb dX7_lift_15 (by decide) ?_
    refine xcV (n := 2) (As := [.int (nI k), .int (-6)]) (rest := []) (wc := [(xo, .inr (4, [.ref d, .ref i1, .ref i2, .ref g, .ref ru, .ref co, .int ik, .int un, .int tp])), (d, .inr (0, [.long (lN m), .ref e0, .ref k0])), (e0, .inl (G.2.1, 61, .inl er)), (k0, .inl (G.2.1, 61, .inl sk)), (g, .inr (2, [.ref s0, .ref b0, .int (nI nx), .int (nI cn)])), (s0, .inl (G.2.1, 16, .inl st)), (b0, .inl (G.2.1, 16, .inl be))]) (wr := []) X hw (c_X7_change l G xo i1 i2 ru co ik un tp d e0 k0 m er sk g s0 b0 st be nx cn k (-6) hk hn hc) (C := RX7) gX7_lift_X7_change (q0 := 0) rfl rfl rfl ⟨rfl, rfl⟩ (by decide +kernel) ⟨by decide, by decide⟩ rfl hl.1 rfl (Nat.le_of_ble_eq_true rfl) dX7_lift_17 ⟨by decide, by decide⟩ [0, 1, 2, 3, 4, 5, 6] [] rfl rfl rfl rfl (by decide) (fun r w1 H locs hp hw => ?_)
    obtain ⟨rfl, rfl⟩ := hp
    have hw := hw.sub (ws' := [(xo, .inr (4, [.ref d, .ref i1, .ref i2, .ref g, .ref ru, .ref co, .int ik, .int un, .int tp])), (d, .inr (0, [.long (lN (bcm m k (-6))), .ref e0, .ref k0])), (e0, .inl (G.2.1, 61, .inl (upd er k (-6)))), (k0, .inl (G.2.1, 61, .inl sk)), (g, .inr (2, [.ref s0, .ref b0, .int (nI ((nx + 1) % 16)), .int (nI (lgc cn))])), (s0, .inl (G.2.1, 16, .inl (upd st nx (nI k)))), (b0, .inl (G.2.1, 16, .inl (upd be nx (er k))))]) [0, 1, 2, 3, 4, 5, 6] rfl rfl
    refine W.eq (g2 := F0 mt 20 ls []) rfl ?_
    refine lv_aload_n hx hb dX7_lift_20 rfl (lv_at hl 0 rfl) ?_
    refine xg X hw (C := RX7) (T := TX7) (N := 9) (by decide +kernel) 0 rfl rfl 0 (by decide) rfl (by decide +kernel) rfl dX7_lift_21 ?_
    refine xcV (n := 0) (As := []) (rest := []) (wc := [(d, .inr (0, [.long (lN (bcm m k (-6))), .ref e0, .ref k0])), (e0, .inl (G.2.1, 61, .inl (upd er k (-6)))), (k0, .inl (G.2.1, 61, .inl sk))]) (wr := [(xo, .inr (4, [.ref d, .ref i1, .ref i2, .ref g, .ref ru, .ref co, .int ik, .int un, .int tp])), (g, .inr (2, [.ref s0, .ref b0, .int (nI ((nx + 1) % 16)), .int (nI (lgc cn))])), (s0, .inl (G.2.1, 16, .inl (upd st nx (nI k)))), (b0, .inl (G.2.1, 16, .inl (upd be nx (er k))))]) X hw (c_X1_count l G d e0 k0 (bcm m k (-6)) (upd er k (-6)) sk (bcm_lt hm hk)) (C := RX1) gX7_lift_X1_count (q0 := 1) rfl rfl rfl ⟨rfl, rfl⟩ (by decide +kernel) ⟨by decide, by decide⟩ rfl hl.1 rfl (Nat.le_of_ble_eq_true rfl) dX7_lift_24 ⟨by decide, by decide⟩ [1, 2, 3] [0, 4, 5, 6] rfl rfl rfl rfl (by decide) (fun r w1 H locs hp hw => ?_)
    obtain ⟨rfl, rfl⟩ := hp
    have hw := hw.sub (ws' := [(xo, .inr (4, [.ref d, .ref i1, .ref i2, .ref g, .ref ru, .ref co, .int ik, .int un, .int tp])), (d, .inr (0, [.long (lN (bcm m k (-6))), .ref e0, .ref k0])), (e0, .inl (G.2.1, 61, .inl (upd er k (-6)))), (k0, .inl (G.2.1, 61, .inl sk)), (g, .inr (2, [.ref s0, .ref b0, .int (nI ((nx + 1) % 16)), .int (nI (lgc cn))])), (s0, .inl (G.2.1, 16, .inl (upd st nx (nI k)))), (b0, .inl (G.2.1, 16, .inl (upd be nx (er k))))]) [0, 4, 5, 6, 1, 2, 3] rfl rfl
    refine W.eq (g2 := F0 mt 27 ls [.int (nI (pcN 64 (bcm m k (-6))))]) rfl ?_
    refine hret _ _ _ _ _ _ dX7_lift_27 hw ?_
    refine ⟨congrArg (fun z => some (Value.int z)) (by simp [liftR, hs, hck]), Or.inr ⟨hs, ?_⟩⟩
    rw [hck]
  · have hs := bi_f c8
    refine lv_iconst (v := (-1)) hx hb dX7_lift_11 (by decide) ?_
    refine hret _ _ _ _ _ _ dX7_lift_12 hw ?_
    exact ⟨congrArg (fun z => some (Value.int z)) (by simp [liftR, hs]), Or.inl ⟨by exact hs, rfl⟩⟩

set_option maxHeartbeats 4000000 in
set_option maxRecDepth 100000 in
theorem c_X7_undo (l : Launch) (G : GG) (xo : Nat) (i1 : Nat) (i2 : Nat) (ru : Nat) (co : Nat) (ik : Int32) (un : Int32) (tp : Int32) (d : Nat) (e0 : Nat) (k0 : Nat) (m : Nat) (er : Nat → Int32) (sk : Nat → Int32) (g : Nat) (s0 : Nat) (b0 : Nat) (st : Nat → Int32) (be : Nat → Int32) (nx : Nat) (cn : Nat) (kk : Nat) (hn : nx < 16) (hc : cn ≤ 16) (hkk : cn ≠ 0 → st ((nx + 15) % 16) = nI kk ∧ kk ≤ 60) : CT l G yX7_undo wsX7_undo ({ frames := 3, cells := 0, slots := 0, locals := 62 } : Room) [.ref xo] [(xo, .inr (4, [.ref d, .ref i1, .ref i2, .ref g, .ref ru, .ref co, .int ik, .int un, .int tp])), (d, .inr (0, [.long (lN m), .ref e0, .ref k0])), (e0, .inl (G.2.1, 61, .inl er)), (k0, .inl (G.2.1, 61, .inl sk)), (g, .inr (2, [.ref s0, .ref b0, .int (nI nx), .int (nI cn)])), (s0, .inl (G.2.1, 16, .inl st)), (b0, .inl (G.2.1, 16, .inl be))] (fun r w => (cn = 0 ∧ r = some (.int (-5)) ∧ w = [(xo, .inr (4, [.ref d, .ref i1, .ref i2, .ref g, .ref ru, .ref co, .int ik, .int un, .int tp])), (d, .inr (0, [.long (lN m), .ref e0, .ref k0])), (e0, .inl (G.2.1, 61, .inl er)), (k0, .inl (G.2.1, 61, .inl sk)), (g, .inr (2, [.ref s0, .ref b0, .int (nI nx), .int (nI cn)])), (s0, .inl (G.2.1, 16, .inl st)), (b0, .inl (G.2.1, 16, .inl be))]) ∨ (cn ≠ 0 ∧ r = some (.int (nI (cn - 1))) ∧ w = [(xo, .inr (4, [.ref d, .ref i1, .ref i2, .ref g, .ref ru, .ref co, .int ik, .int (un + 1), .int tp])), (d, .inr (0, [.long (lN (bcm m kk (be ((nx + 15) % 16)))), .ref e0, .ref k0])), (e0, .inl (G.2.1, 61, .inl (upd er kk (be ((nx + 15) % 16))))), (k0, .inl (G.2.1, 61, .inl sk)), (g, .inr (2, [.ref s0, .ref b0, .int (nI ((nx + 15) % 16)), .int (nI (cn - 1))])), (s0, .inl (G.2.1, 16, .inl st)), (b0, .inl (G.2.1, 16, .inl be))])) 0 0 := by
  refine ct_i (cc := cX7_undo) (maxL := 1) (by decide +kernel) rfl (Nat.le_of_ble_eq_true rfl) ?_
  intro p e s mt below meth c A Q X hw hret ls hl
  obtain ⟨hx, hb, -⟩ := id X
  have hl : lv_has ls 1 [(0, .ref xo)] := hl
  refine lv_aload_n hx hb dX7_undo_0 rfl (lv_at hl 0 rfl) ?_
  refine xg X hw (C := RX7) (T := TX7) (N := 9) (by decide +kernel) 0 rfl rfl 3 (by decide) rfl (by decide +kernel) rfl dX7_undo_1 ?_
  refine xcV (n := 0) (As := []) (rest := []) (wc := [(g, .inr (2, [.ref s0, .ref b0, .int (nI nx), .int (nI cn)])), (s0, .inl (G.2.1, 16, .inl st)), (b0, .inl (G.2.1, 16, .inl be))]) (wr := [(xo, .inr (4, [.ref d, .ref i1, .ref i2, .ref g, .ref ru, .ref co, .int ik, .int un, .int tp])), (d, .inr (0, [.long (lN m), .ref e0, .ref k0])), (e0, .inl (G.2.1, 61, .inl er)), (k0, .inl (G.2.1, 61, .inl sk))]) X hw (c_X4_count l G g s0 b0 st be nx cn ) (C := RX4) gX7_undo_X4_count (q0 := 4) rfl rfl rfl ⟨rfl, rfl⟩ (by decide +kernel) ⟨by decide, by decide⟩ rfl hl.1 rfl (Nat.le_of_ble_eq_true rfl) dX7_undo_4 ⟨by decide, by decide⟩ [4, 5, 6] [0, 1, 2, 3] rfl rfl rfl rfl (by decide) (fun r w1 H locs hp hw => ?_)
  obtain ⟨rfl, rfl⟩ := hp
  have hw := hw.sub (ws' := [(xo, .inr (4, [.ref d, .ref i1, .ref i2, .ref g, .ref ru, .ref co, .int ik, .int un, .int tp])), (d, .inr (0, [.long (lN m), .ref e0, .ref k0])), (e0, .inl (G.2.1, 61, .inl er)), (k0, .inl (G.2.1, 61, .inl sk)), (g, .inr (2, [.ref s0, .ref b0, .int (nI nx), .int (nI cn)])), (s0, .inl (G.2.1, 16, .inl st)), (b0, .inl (G.2.1, 16, .inl be))]) [0, 1, 2, 3, 4, 5, 6] rfl rfl
  refine W.eq (g2 := F0 mt 7 ls [.int (nI cn)]) rfl ?_
  refine lv_if_ne (tgt := 13) hx hb dX7_undo_7 (by decide) (fun c7 => ?_) (fun c7 => ?_)
  · have h0 : cn ≠ 0 := fun q => c7 (by rw [q]; rfl)
    obtain ⟨hkk1, hkk2⟩ := hkk h0
    refine lv_aload_n hx hb dX7_undo_13 rfl (lv_at hl 0 rfl) ?_
    refine xg X hw (C := RX7) (T := TX7) (N := 9) (by decide +kernel) 0 rfl rfl 0 (by decide) rfl (by decide +kernel) rfl dX7_undo_14 ?_
    refine lv_aload_n hx hb dX7_undo_17 rfl (lv_at hl 0 rfl) ?_
    refine xg X hw (C := RX7) (T := TX7) (N := 9) (by decide +kernel) 0 rfl rfl 3 (by decide) rfl (by decide +kernel) rfl dX7_undo_18 ?_
    refine xcV (n := 0) (As := []) (rest := [.ref d]) (wc := [(g, .inr (2, [.ref s0, .ref b0, .int (nI nx), .int (nI cn)])), (s0, .inl (G.2.1, 16, .inl st)), (b0, .inl (G.2.1, 16, .inl be))]) (wr := [(xo, .inr (4, [.ref d, .ref i1, .ref i2, .ref g, .ref ru, .ref co, .int ik, .int un, .int tp])), (d, .inr (0, [.long (lN m), .ref e0, .ref k0])), (e0, .inl (G.2.1, 61, .inl er)), (k0, .inl (G.2.1, 61, .inl sk))]) X hw (c_X4_lastStation l G g s0 b0 st be nx cn hn) (C := RX4) gX7_undo_X4_lastStation (q0 := 4) rfl rfl rfl ⟨rfl, rfl⟩ (by decide +kernel) ⟨by decide, by decide⟩ rfl hl.1 rfl (Nat.le_of_ble_eq_true rfl) dX7_undo_21 ⟨by decide, by decide⟩ [4, 5, 6] [0, 1, 2, 3] rfl rfl rfl rfl (by decide) (fun r w1 H locs hp hw => ?_)
    obtain ⟨rfl, rfl⟩ := hp
    have hw := hw.sub (ws' := [(xo, .inr (4, [.ref d, .ref i1, .ref i2, .ref g, .ref ru, .ref co, .int ik, .int un, .int tp])), (d, .inr (0, [.long (lN m), .ref e0, .ref k0])), (e0, .inl (G.2.1, 61, .inl er)), (k0, .inl (G.2.1, 61, .inl sk)), (g, .inr (2, [.ref s0, .ref b0, .int (nI nx), .int (nI cn)])), (s0, .inl (G.2.1, 16, .inl st)), (b0, .inl (G.2.1, 16, .inl be))]) [0, 1, 2, 3, 4, 5, 6] rfl rfl
    refine W.eq (g2 := F0 mt 24 ls [.int (st ((nx + 15) % 16)), .ref d]) rfl ?_
    refine x_cvi (y := nI kk) (by exact hkk1) ?_
    refine lv_aload_n hx hb dX7_undo_24 rfl (lv_at hl 0 rfl) ?_
    refine xg X hw (C := RX7) (T := TX7) (N := 9) (by decide +kernel) 0 rfl rfl 3 (by decide) rfl (by decide +kernel) rfl dX7_undo_25 ?_
    refine xcV (n := 0) (As := []) (rest := [.int (nI kk), .ref d]) (wc := [(g, .inr (2, [.ref s0, .ref b0, .int (nI nx), .int (nI cn)])), (s0, .inl (G.2.1, 16, .inl st)), (b0, .inl (G.2.1, 16, .inl be))]) (wr := [(xo, .inr (4, [.ref d, .ref i1, .ref i2, .ref g, .ref ru, .ref co, .int ik, .int un, .int tp])), (d, .inr (0, [.long (lN m), .ref e0, .ref k0])), (e0, .inl (G.2.1, 61, .inl er)), (k0, .inl (G.2.1, 61, .inl sk))]) X hw (c_X4_lastBefore l G g s0 b0 st be nx cn hn) (C := RX4) gX7_undo_X4_lastBefore (q0 := 4) rfl rfl rfl ⟨rfl, rfl⟩ (by decide +kernel) ⟨by decide, by decide⟩ rfl hl.1 rfl (Nat.le_of_ble_eq_true rfl) dX7_undo_28 ⟨by decide, by decide⟩ [4, 5, 6] [0, 1, 2, 3] rfl rfl rfl rfl (by decide) (fun r w1 H locs hp hw => ?_)
    obtain ⟨rfl, rfl⟩ := hp
    have hw := hw.sub (ws' := [(xo, .inr (4, [.ref d, .ref i1, .ref i2, .ref g, .ref ru, .ref co, .int ik, .int un, .int tp])), (d, .inr (0, [.long (lN m), .ref e0, .ref k0])), (e0, .inl (G.2.1, 61, .inl er)), (k0, .inl (G.2.1, 61, .inl sk)), (g, .inr (2, [.ref s0, .ref b0, .int (nI nx), .int (nI cn)])), (s0, .inl (G.2.1, 16, .inl st)), (b0, .inl (G.2.1, 16, .inl be))]) [0, 1, 2, 3, 4, 5, 6] rfl rfl
    refine W.eq (g2 := F0 mt 31 ls [.int (be ((nx + 15) % 16)), .int (nI kk), .ref d]) rfl ?_
    refine xcV (n := 2) (As := [.int (nI kk), .int (be ((nx + 15) % 16))]) (rest := []) (wc := [(d, .inr (0, [.long (lN m), .ref e0, .ref k0])), (e0, .inl (G.2.1, 61, .inl er)), (k0, .inl (G.2.1, 61, .inl sk))]) (wr := [(xo, .inr (4, [.ref d, .ref i1, .ref i2, .ref g, .ref ru, .ref co, .int ik, .int un, .int tp])), (g, .inr (2, [.ref s0, .ref b0, .int (nI nx), .int (nI cn)])), (s0, .inl (G.2.1, 16, .inl st)), (b0, .inl (G.2.1, 16, .inl be))]) X hw (c_X1_become l G d e0 k0 m er sk kk (be ((nx + 15) % 16)) hkk2) (C := RX1) gX7_undo_X1_become (q0 := 1) rfl rfl rfl ⟨rfl, rfl⟩ (by decide +kernel) ⟨by decide, by decide⟩ rfl hl.1 rfl (Nat.le_of_ble_eq_true rfl) dX7_undo_31 ⟨by decide, by decide⟩ [1, 2, 3] [0, 4, 5, 6] rfl rfl rfl rfl (by decide) (fun r w1 H locs hp hw => ?_)
    obtain ⟨rfl, rfl⟩ := hp
    have hw := hw.sub (ws' := [(xo, .inr (4, [.ref d, .ref i1, .ref i2, .ref g, .ref ru, .ref co, .int ik, .int un, .int tp])), (d, .inr (0, [.long (lN (bcm m kk (be ((nx + 15) % 16)))), .ref e0, .ref k0])), (e0, .inl (G.2.1, 61, .inl (upd er kk (be ((nx + 15) % 16))))), (k0, .inl (G.2.1, 61, .inl sk)), (g, .inr (2, [.ref s0, .ref b0, .int (nI nx), .int (nI cn)])), (s0, .inl (G.2.1, 16, .inl st)), (b0, .inl (G.2.1, 16, .inl be))]) [0, 4, 5, 6, 1, 2, 3] rfl rfl
    refine W.eq (g2 := F0 mt 34 ls []) rfl ?_
    refine lv_aload_n hx hb dX7_undo_34 rfl (lv_at hl 0 rfl) ?_
    refine xg X hw (C := RX7) (T := TX7) (N := 9) (by decide +kernel) 0 rfl rfl 3 (by decide) rfl (by decide +kernel) rfl dX7_undo_35 ?_
    refine xcV (n := 0) (As := []) (rest := []) (wc := [(g, .inr (2, [.ref s0, .ref b0, .int (nI nx), .int (nI cn)])), (s0, .inl (G.2.1, 16, .inl st)), (b0, .inl (G.2.1, 16, .inl be))]) (wr := [(xo, .inr (4, [.ref d, .ref i1, .ref i2, .ref g, .ref ru, .ref co, .int ik, .int un, .int tp])), (d, .inr (0, [.long (lN (bcm m kk (be ((nx + 15) % 16)))), .ref e0, .ref k0])), (e0, .inl (G.2.1, 61, .inl (upd er kk (be ((nx + 15) % 16))))), (k0, .inl (G.2.1, 61, .inl sk))]) X hw (c_X4_forgetLast l G g s0 b0 st be nx cn hn (by omega) hc) (C := RX4) gX7_undo_X4_forgetLast (q0 := 4) rfl rfl rfl ⟨rfl, rfl⟩ (by decide +kernel) ⟨by decide, by decide⟩ rfl hl.1 rfl (Nat.le_of_ble_eq_true rfl) dX7_undo_38 ⟨by decide, by decide⟩ [4, 5, 6] [0, 1, 2, 3] rfl rfl rfl rfl (by decide) (fun r w1 H locs hp hw => ?_)
    obtain ⟨rfl, rfl⟩ := hp
    have hw := hw.sub (ws' := [(xo, .inr (4, [.ref d, .ref i1, .ref i2, .ref g, .ref ru, .ref co, .int ik, .int un, .int tp])), (d, .inr (0, [.long (lN (bcm m kk (be ((nx + 15) % 16)))), .ref e0, .ref k0])), (e0, .inl (G.2.1, 61, .inl (upd er kk (be ((nx + 15) % 16))))), (k0, .inl (G.2.1, 61, .inl sk)), (g, .inr (2, [.ref s0, .ref b0, .int (nI ((nx + 15) % 16)), .int (nI (cn - 1))])), (s0, .inl (G.2.1, 16, .inl st)), (b0, .inl (G.2.1, 16, .inl be))]) [0, 1, 2, 3, 4, 5, 6] rfl rfl
    refine W.eq (g2 := F0 mt 41 ls []) rfl ?_
    refine lv_aload_n hx hb dX7_undo_41 rfl (lv_at hl 0 rfl) ?_
    refine lv_dup hx hb dX7_undo_42 rfl ?_
    refine xg X hw (C := RX7) (T := TX7) (N := 9) (by decide +kernel) 0 rfl rfl 7 (by decide) rfl (by decide +kernel) rfl dX7_undo_43 ?_
    refine lv_iconst (v := 1) hx hb dX7_undo_46 (by decide) ?_
    refine lv_iadd hx hb dX7_undo_47 ?_
    refine xp X hw (C := RX7) (ty := .int) (T := TX7) (N := 9) (by decide +kernel) tyX7 tyX7_ok nmX7 0 rfl rfl 7 (by decide) rfl (by decide +kernel) rfl (by decide +kernel) rfl rfl (Nat.le_of_ble_eq_true rfl) dX7_undo_48 (ws' := [(xo, .inr (4, [.ref d, .ref i1, .ref i2, .ref g, .ref ru, .ref co, .int ik, .int (un + 1), .int tp])), (d, .inr (0, [.long (lN (bcm m kk (be ((nx + 15) % 16)))), .ref e0, .ref k0])), (e0, .inl (G.2.1, 61, .inl (upd er kk (be ((nx + 15) % 16))))), (k0, .inl (G.2.1, 61, .inl sk)), (g, .inr (2, [.ref s0, .ref b0, .int (nI ((nx + 15) % 16)), .int (nI (cn - 1))])), (s0, .inl (G.2.1, 16, .inl st)), (b0, .inl (G.2.1, 16, .inl be))]) rfl (fun H locs hw => ?_)
    refine lv_aload_n hx hb dX7_undo_51 rfl (lv_at hl 0 rfl) ?_
    refine xg X hw (C := RX7) (T := TX7) (N := 9) (by decide +kernel) 0 rfl rfl 3 (by decide) rfl (by decide +kernel) rfl dX7_undo_52 ?_
    refine xcV (n := 0) (As := []) (rest := []) (wc := [(g, .inr (2, [.ref s0, .ref b0, .int (nI ((nx + 15) % 16)), .int (nI (cn - 1))])), (s0, .inl (G.2.1, 16, .inl st)), (b0, .inl (G.2.1, 16, .inl be))]) (wr := [(xo, .inr (4, [.ref d, .ref i1, .ref i2, .ref g, .ref ru, .ref co, .int ik, .int (un + 1), .int tp])), (d, .inr (0, [.long (lN (bcm m kk (be ((nx + 15) % 16)))), .ref e0, .ref k0])), (e0, .inl (G.2.1, 61, .inl (upd er kk (be ((nx + 15) % 16))))), (k0, .inl (G.2.1, 61, .inl sk))]) X hw (c_X4_count l G g s0 b0 st be ((nx + 15) % 16) (cn - 1) ) (C := RX4) gX7_undo_X4_count (q0 := 4) rfl rfl rfl ⟨rfl, rfl⟩ (by decide +kernel) ⟨by decide, by decide⟩ rfl hl.1 rfl (Nat.le_of_ble_eq_true rfl) dX7_undo_55 ⟨by decide, by decide⟩ [4, 5, 6] [0, 1, 2, 3] rfl rfl rfl rfl (by decide) (fun r w1 H locs hp hw => ?_)
    obtain ⟨rfl, rfl⟩ := hp
    have hw := hw.sub (ws' := [(xo, .inr (4, [.ref d, .ref i1, .ref i2, .ref g, .ref ru, .ref co, .int ik, .int (un + 1), .int tp])), (d, .inr (0, [.long (lN (bcm m kk (be ((nx + 15) % 16)))), .ref e0, .ref k0])), (e0, .inl (G.2.1, 61, .inl (upd er kk (be ((nx + 15) % 16))))), (k0, .inl (G.2.1, 61, .inl sk)), (g, .inr (2, [.ref s0, .ref b0, .int (nI ((nx + 15) % 16)), .int (nI (cn - 1))])), (s0, .inl (G.2.1, 16, .inl st)), (b0, .inl (G.2.1, 16, .inl be))]) [0, 1, 2, 3, 4, 5, 6] rfl rfl
    refine W.eq (g2 := F0 mt 58 ls [.int (nI (cn - 1))]) rfl ?_
    refine hret _ _ _ _ _ _ dX7_undo_58 hw ?_
    exact Or.inr ⟨h0, rfl, rfl⟩
  · have h0 : cn = 0 := i_eq (b := 0) (by omega) (by decide) c7
    refine lv_bipush (v := (-5)) hx hb dX7_undo_10 (by decide) ?_
    refine hret _ _ _ _ _ _ dX7_undo_12 hw ?_
    exact Or.inl ⟨h0, rfl, rfl⟩

set_option maxHeartbeats 4000000 in
set_option maxRecDepth 100000 in
theorem c_X7_station (l : Launch) (G : GG) (xo : Nat) (i1 : Nat) (i2 : Nat) (ru : Nat) (co : Nat) (ik : Int32) (un : Int32) (tp : Int32) (g : Nat) (d : Nat) (e0 : Nat) (k0 : Nat) (m : Nat) (er : Nat → Int32) (sk : Nat → Int32) (i : Int32) (hm : m < 2 ^ 61) : CT l G yX7_station wsX7_station ({ frames := 4, cells := 0, slots := 0, locals := 86 } : Room) [.ref xo, .int i] [(xo, .inr (4, [.ref d, .ref i1, .ref i2, .ref g, .ref ru, .ref co, .int ik, .int un, .int tp])), (d, .inr (0, [.long (lN m), .ref e0, .ref k0])), (e0, .inl (G.2.1, 61, .inl er)), (k0, .inl (G.2.1, 61, .inl sk))] (fun r w => r = some (.int (mkA m i)) ∧ w = [(xo, .inr (4, [.ref d, .ref i1, .ref i2, .ref g, .ref ru, .ref co, .int ik, .int un, .int tp])), (d, .inr (0, [.long (lN m), .ref e0, .ref k0])), (e0, .inl (G.2.1, 61, .inl er)), (k0, .inl (G.2.1, 61, .inl sk))]) 0 0 := by
  refine ct_i (cc := cX7_station) (maxL := 2) (by decide +kernel) rfl (Nat.le_of_ble_eq_true rfl) ?_
  intro p e s mt below meth c A Q X hw hret ls hl
  obtain ⟨hx, hb, -⟩ := id X
  have hl : lv_has ls 2 [(0, .ref xo), (1, .int i)] := hl
  refine lv_aload_n hx hb dX7_station_0 rfl (lv_at hl 0 rfl) ?_
  refine xg X hw (C := RX7) (T := TX7) (N := 9) (by decide +kernel) 0 rfl rfl 0 (by decide) rfl (by decide +kernel) rfl dX7_station_1 ?_
  refine xcV (n := 0) (As := []) (rest := []) (wc := [(d, .inr (0, [.long (lN m), .ref e0, .ref k0])), (e0, .inl (G.2.1, 61, .inl er)), (k0, .inl (G.2.1, 61, .inl sk))]) (wr := [(xo, .inr (4, [.ref d, .ref i1, .ref i2, .ref g, .ref ru, .ref co, .int ik, .int un, .int tp]))]) X hw (c_X1_line l G d e0 k0 m er sk ) (C := RX1) gX7_station_X1_line (q0 := 1) rfl rfl rfl ⟨rfl, rfl⟩ (by decide +kernel) ⟨by decide, by decide⟩ rfl hl.1 rfl (Nat.le_of_ble_eq_true rfl) dX7_station_4 ⟨by decide, by decide⟩ [1, 2, 3] [0] rfl rfl rfl rfl (by decide) (fun r w1 H locs hp hw => ?_)
  obtain ⟨rfl, rfl⟩ := hp
  have hw := hw.sub (ws' := [(xo, .inr (4, [.ref d, .ref i1, .ref i2, .ref g, .ref ru, .ref co, .int ik, .int un, .int tp])), (d, .inr (0, [.long (lN m), .ref e0, .ref k0])), (e0, .inl (G.2.1, 61, .inl er)), (k0, .inl (G.2.1, 61, .inl sk))]) [0, 1, 2, 3] rfl rfl
  refine W.eq (g2 := F0 mt 7 ls [.long (lN m)]) rfl ?_
  refine lv_iload_n hx hb dX7_station_7 rfl (lv_at hl 1 rfl) ?_
  refine xcP (n := 2) (As := [.long (lN m), .int i]) (rest := []) X hw (c_X3_markAt l G m i hm) gX7_station_X3_markAt rfl ⟨rfl, rfl⟩ (by decide +kernel) ⟨by decide, by decide⟩ rfl hl.1 rfl (Nat.le_of_ble_eq_true rfl) dX7_station_8 ⟨by decide, by decide⟩ (fun r w1 H locs hp hw => ?_)
  obtain rfl := hp
  refine W.eq (g2 := F0 mt 11 ls [.int (mkA m i)]) rfl ?_
  refine hret _ _ _ _ _ _ dX7_station_11 hw ?_
  exact ⟨rfl, rfl⟩

set_option maxHeartbeats 4000000 in
set_option maxRecDepth 100000 in
theorem c_X7_spacing (l : Launch) (G : GG) (xo : Nat) (i1 : Nat) (i2 : Nat) (ru : Nat) (co : Nat) (ik : Int32) (un : Int32) (tp : Int32) (g : Nat) (d : Nat) (e0 : Nat) (k0 : Nat) (m : Nat) (er : Nat → Int32) (sk : Nat → Int32) (x : Int32) (hm : m < 2 ^ 61) : CT l G yX7_spacing wsX7_spacing ({ frames := 2, cells := 0, slots := 0, locals := 43 } : Room) [.ref xo, .int x] [(xo, .inr (4, [.ref d, .ref i1, .ref i2, .ref g, .ref ru, .ref co, .int ik, .int un, .int tp])), (d, .inr (0, [.long (lN m), .ref e0, .ref k0])), (e0, .inl (G.2.1, 61, .inl er)), (k0, .inl (G.2.1, 61, .inl sk))] (fun r w => r = some (.int (spcR m x)) ∧ w = [(xo, .inr (4, [.ref d, .ref i1, .ref i2, .ref g, .ref ru, .ref co, .int ik, .int un, .int tp])), (d, .inr (0, [.long (lN m), .ref e0, .ref k0])), (e0, .inl (G.2.1, 61, .inl er)), (k0, .inl (G.2.1, 61, .inl sk))]) 0 0 := by
  refine ct_i (cc := cX7_spacing) (maxL := 2) (by decide +kernel) rfl (Nat.le_of_ble_eq_true rfl) ?_
  intro p e s mt below meth c A Q X hw hret ls hl
  obtain ⟨hx, hb, -⟩ := id X
  have hl : lv_has ls 2 [(0, .ref xo), (1, .int x)] := hl
  refine lv_iload_n hx hb dX7_spacing_0 rfl (lv_at hl 1 rfl) ?_
  refine xcP (n := 1) (As := [.int x]) (rest := []) X hw (c_X7_isLength l G x ) gX7_spacing_X7_isLength rfl ⟨rfl, rfl⟩ (by decide +kernel) ⟨by decide, by decide⟩ rfl hl.1 rfl (Nat.le_of_ble_eq_true rfl) dX7_spacing_1 ⟨by decide, by decide⟩ (fun r w1 H locs hp hw => ?_)
  obtain rfl := hp
  refine W.eq (g2 := F0 mt 4 ls [.int (bi (inL x))]) rfl ?_
  refine lv_if_ne (tgt := 10) hx hb dX7_spacing_4 (by decide) (fun c4 => ?_) (fun c4 => ?_)
  · have hi := bi_t c4
    refine lv_aload_n hx hb dX7_spacing_10 rfl (lv_at hl 0 rfl) ?_
    refine xg X hw (C := RX7) (T := TX7) (N := 9) (by decide +kernel) 0 rfl rfl 0 (by decide) rfl (by decide +kernel) rfl dX7_spacing_11 ?_
    refine xcV (n := 0) (As := []) (rest := []) (wc := [(d, .inr (0, [.long (lN m), .ref e0, .ref k0])), (e0, .inl (G.2.1, 61, .inl er)), (k0, .inl (G.2.1, 61, .inl sk))]) (wr := [(xo, .inr (4, [.ref d, .ref i1, .ref i2, .ref g, .ref ru, .ref co, .int ik, .int un, .int tp]))]) X hw (c_X1_line l G d e0 k0 m er sk ) (C := RX1) gX7_spacing_X1_line (q0 := 1) rfl rfl rfl ⟨rfl, rfl⟩ (by decide +kernel) ⟨by decide, by decide⟩ rfl hl.1 rfl (Nat.le_of_ble_eq_true rfl) dX7_spacing_14 ⟨by decide, by decide⟩ [1, 2, 3] [0] rfl rfl rfl rfl (by decide) (fun r w1 H locs hp hw => ?_)
    obtain ⟨rfl, rfl⟩ := hp
    have hw := hw.sub (ws' := [(xo, .inr (4, [.ref d, .ref i1, .ref i2, .ref g, .ref ru, .ref co, .int ik, .int un, .int tp])), (d, .inr (0, [.long (lN m), .ref e0, .ref k0])), (e0, .inl (G.2.1, 61, .inl er)), (k0, .inl (G.2.1, 61, .inl sk))]) [0, 1, 2, 3] rfl rfl
    refine W.eq (g2 := F0 mt 17 ls [.long (lN m)]) rfl ?_
    refine lv_iload_n hx hb dX7_spacing_17 rfl (lv_at hl 1 rfl) ?_
    refine xcP (n := 2) (As := [.long (lN m), .int x]) (rest := []) X hw (c_X3_often l G m x hm) gX7_spacing_X3_often rfl ⟨rfl, rfl⟩ (by decide +kernel) ⟨by decide, by decide⟩ rfl hl.1 rfl (Nat.le_of_ble_eq_true rfl) dX7_spacing_18 ⟨by decide, by decide⟩ (fun r w1 H locs hp hw => ?_)
    obtain rfl := hp
    refine W.eq (g2 := F0 mt 21 ls [.int (nI (ofX m x))]) rfl ?_
    refine hret _ _ _ _ _ _ dX7_spacing_21 hw ?_
    exact ⟨congrArg (fun z => some (Value.int z)) (by simp [spcR, hi]), rfl⟩
  · have hi := bi_f c4
    refine lv_bipush (v := (-2)) hx hb dX7_spacing_7 (by decide) ?_
    refine hret _ _ _ _ _ _ dX7_spacing_9 hw ?_
    exact ⟨congrArg (fun z => some (Value.int z)) (by simp [spcR, hi]), rfl⟩

set_option maxHeartbeats 4000000 in
set_option maxRecDepth 100000 in
theorem c_X7_facts (l : Launch) (G : GG) (xo : Nat) (i1 : Nat) (i2 : Nat) (ru : Nat) (co : Nat) (ik : Int32) (un : Int32) (tp : Int32) (g : Nat) (d : Nat) (e0 : Nat) (k0 : Nat) (m : Nat) (er : Nat → Int32) (sk : Nat → Int32) (x : Int32) (hm : m < 2 ^ 61) : CT l G yX7_facts wsX7_facts ({ frames := 6, cells := 0, slots := 0, locals := 131 } : Room) [.ref xo, .int x] [(xo, .inr (4, [.ref d, .ref i1, .ref i2, .ref g, .ref ru, .ref co, .int ik, .int un, .int tp])), (d, .inr (0, [.long (lN m), .ref e0, .ref k0])), (e0, .inl (G.2.1, 61, .inl er)), (k0, .inl (G.2.1, 61, .inl sk))] (fun r w => r = some (.int (faR m x)) ∧ w = [(xo, .inr (4, [.ref d, .ref i1, .ref i2, .ref g, .ref ru, .ref co, .int ik, .int un, .int tp])), (d, .inr (0, [.long (lN m), .ref e0, .ref k0])), (e0, .inl (G.2.1, 61, .inl er)), (k0, .inl (G.2.1, 61, .inl sk))]) 0 0 := by
  refine ct_i (cc := cX7_facts) (maxL := 4) (by decide +kernel) rfl (Nat.le_of_ble_eq_true rfl) ?_
  intro p e s mt below meth c A Q X hw hret ls hl
  obtain ⟨hx, hb, -⟩ := id X
  have hl : lv_has ls 4 [(0, .ref xo), (1, .int x)] := hl
  refine lv_aload_n hx hb dX7_facts_0 rfl (lv_at hl 0 rfl) ?_
  refine xg X hw (C := RX7) (T := TX7) (N := 9) (by decide +kernel) 0 rfl rfl 0 (by decide) rfl (by decide +kernel) rfl dX7_facts_1 ?_
  refine xcV (n := 0) (As := []) (rest := []) (wc := [(d, .inr (0, [.long (lN m), .ref e0, .ref k0])), (e0, .inl (G.2.1, 61, .inl er)), (k0, .inl (G.2.1, 61, .inl sk))]) (wr := [(xo, .inr (4, [.ref d, .ref i1, .ref i2, .ref g, .ref ru, .ref co, .int ik, .int un, .int tp]))]) X hw (c_X1_line l G d e0 k0 m er sk ) (C := RX1) gX7_facts_X1_line (q0 := 1) rfl rfl rfl ⟨rfl, rfl⟩ (by decide +kernel) ⟨by decide, by decide⟩ rfl hl.1 rfl (Nat.le_of_ble_eq_true rfl) dX7_facts_4 ⟨by decide, by decide⟩ [1, 2, 3] [0] rfl rfl rfl rfl (by decide) (fun r w1 H locs hp hw => ?_)
  obtain ⟨rfl, rfl⟩ := hp
  have hw := hw.sub (ws' := [(xo, .inr (4, [.ref d, .ref i1, .ref i2, .ref g, .ref ru, .ref co, .int ik, .int un, .int tp])), (d, .inr (0, [.long (lN m), .ref e0, .ref k0])), (e0, .inl (G.2.1, 61, .inl er)), (k0, .inl (G.2.1, 61, .inl sk))]) [0, 1, 2, 3] rfl rfl
  refine W.eq (g2 := F0 mt 7 ls [.long (lN m)]) rfl ?_
  refine lv_lstore_n (lv' := [(2, .long (lN m)), (0, .ref xo), (1, .int x)]) hx hb dX7_facts_7 rfl hl (by decide) rfl (fun ls hl => ?_)
  refine lv_iload_n hx hb dX7_facts_8 rfl (lv_at hl 2 rfl) ?_
  by_cases ht9_0 : x = 0
  · refine lv_tableIn (tgt := 52) hx hb dX7_facts_9 (by rw [ht9_0]; decide) (by rw [ht9_0]; decide) (off := 43) (by rw [ht9_0]; rfl) (by decide) ?_
    refine lv_aload_n hx hb dX7_facts_52 rfl (lv_at hl 1 rfl) ?_
    refine xg X hw (C := RX7) (T := TX7) (N := 9) (by decide +kernel) 0 rfl rfl 0 (by decide) rfl (by decide +kernel) rfl dX7_facts_53 ?_
    refine xcV (n := 0) (As := []) (rest := []) (wc := [(d, .inr (0, [.long (lN m), .ref e0, .ref k0])), (e0, .inl (G.2.1, 61, .inl er)), (k0, .inl (G.2.1, 61, .inl sk))]) (wr := [(xo, .inr (4, [.ref d, .ref i1, .ref i2, .ref g, .ref ru, .ref co, .int ik, .int un, .int tp]))]) X hw (c_X1_count l G d e0 k0 m er sk hm) (C := RX1) gX7_facts_X1_count (q0 := 1) rfl rfl rfl ⟨rfl, rfl⟩ (by decide +kernel) ⟨by decide, by decide⟩ rfl hl.1 rfl (Nat.le_of_ble_eq_true rfl) dX7_facts_56 ⟨by decide, by decide⟩ [1, 2, 3] [0] rfl rfl rfl rfl (by decide) (fun r w1 H locs hp hw => ?_)
    obtain ⟨rfl, rfl⟩ := hp
    have hw := hw.sub (ws' := [(xo, .inr (4, [.ref d, .ref i1, .ref i2, .ref g, .ref ru, .ref co, .int ik, .int un, .int tp])), (d, .inr (0, [.long (lN m), .ref e0, .ref k0])), (e0, .inl (G.2.1, 61, .inl er)), (k0, .inl (G.2.1, 61, .inl sk))]) [0, 1, 2, 3] rfl rfl
    refine W.eq (g2 := F0 mt 59 ls [.int (nI (pcN 64 m))]) rfl ?_
    refine hret _ _ _ _ _ _ dX7_facts_59 hw ?_
    exact ⟨congrArg (fun z => some (Value.int z)) (by simp [faR, ht9_0]), rfl⟩
  by_cases ht9_1 : x = 1
  · refine lv_tableIn (tgt := 60) hx hb dX7_facts_9 (by rw [ht9_1]; decide) (by rw [ht9_1]; decide) (off := 51) (by rw [ht9_1]; rfl) (by decide) ?_
    refine lv_lload_n hx hb dX7_facts_60 rfl (lv_at hl 0 rfl) ?_
    refine xcP (n := 1) (As := [.long (lN m)]) (rest := []) X hw (c_X3_span l G m hm) gX7_facts_X3_span rfl ⟨rfl, rfl⟩ (by decide +kernel) ⟨by decide, by decide⟩ rfl hl.1 rfl (Nat.le_of_ble_eq_true rfl) dX7_facts_61 ⟨by decide, by decide⟩ (fun r w1 H locs hp hw => ?_)
    obtain rfl := hp
    refine W.eq (g2 := F0 mt 64 ls [.int (nI (spN m))]) rfl ?_
    refine hret _ _ _ _ _ _ dX7_facts_64 hw ?_
    exact ⟨congrArg (fun z => some (Value.int z)) (by simp [faR, ht9_1]), rfl⟩
  by_cases ht9_2 : x = 2
  · refine lv_tableIn (tgt := 65) hx hb dX7_facts_9 (by rw [ht9_2]; decide) (by rw [ht9_2]; decide) (off := 56) (by rw [ht9_2]; rfl) (by decide) ?_
    refine lv_lload_n hx hb dX7_facts_65 rfl (lv_at hl 0 rfl) ?_
    refine xcP (n := 1) (As := [.long (lN m)]) (rest := []) X hw (c_X3_reach l G m hm) gX7_facts_X3_reach rfl ⟨rfl, rfl⟩ (by decide +kernel) ⟨by decide, by decide⟩ rfl hl.1 rfl (Nat.le_of_ble_eq_true rfl) dX7_facts_66 ⟨by decide, by decide⟩ (fun r w1 H locs hp hw => ?_)
    obtain rfl := hp
    refine W.eq (g2 := F0 mt 69 ls [.int (nI (reN m))]) rfl ?_
    refine hret _ _ _ _ _ _ dX7_facts_69 hw ?_
    exact ⟨congrArg (fun z => some (Value.int z)) (by simp [faR, ht9_2]), rfl⟩
  by_cases ht9_3 : x = 3
  · refine lv_tableIn (tgt := 70) hx hb dX7_facts_9 (by rw [ht9_3]; decide) (by rw [ht9_3]; decide) (off := 61) (by rw [ht9_3]; rfl) (by decide) ?_
    refine lv_lload_n hx hb dX7_facts_70 rfl (lv_at hl 0 rfl) ?_
    refine xcP (n := 1) (As := [.long (lN m)]) (rest := []) X hw (c_X3_lacking l G m hm) gX7_facts_X3_lacking rfl ⟨rfl, rfl⟩ (by decide +kernel) ⟨by decide, by decide⟩ rfl hl.1 rfl (Nat.le_of_ble_eq_true rfl) dX7_facts_71 ⟨by decide, by decide⟩ (fun r w1 H locs hp hw => ?_)
    obtain rfl := hp
    refine W.eq (g2 := F0 mt 74 ls [.int (nI (lkN m))]) rfl ?_
    refine hret _ _ _ _ _ _ dX7_facts_74 hw ?_
    exact ⟨congrArg (fun z => some (Value.int z)) (by simp [faR, ht9_3]), rfl⟩
  by_cases ht9_4 : x = 4
  · refine lv_tableIn (tgt := 75) hx hb dX7_facts_9 (by rw [ht9_4]; decide) (by rw [ht9_4]; decide) (off := 66) (by rw [ht9_4]; rfl) (by decide) ?_
    refine lv_lload_n hx hb dX7_facts_75 rfl (lv_at hl 0 rfl) ?_
    refine xcP (n := 1) (As := [.long (lN m)]) (rest := []) X hw (c_X3_repeats l G m hm) gX7_facts_X3_repeats rfl ⟨rfl, rfl⟩ (by decide +kernel) ⟨by decide, by decide⟩ rfl hl.1 rfl (Nat.le_of_ble_eq_true rfl) dX7_facts_76 ⟨by decide, by decide⟩ (fun r w1 H locs hp hw => ?_)
    obtain rfl := hp
    refine W.eq (g2 := F0 mt 79 ls [.int (nI (rpN m))]) rfl ?_
    refine hret _ _ _ _ _ _ dX7_facts_79 hw ?_
    exact ⟨congrArg (fun z => some (Value.int z)) (by simp [faR, ht9_4]), rfl⟩
  by_cases ht9_5 : x = 5
  · refine lv_tableIn (tgt := 80) hx hb dX7_facts_9 (by rw [ht9_5]; decide) (by rw [ht9_5]; decide) (off := 71) (by rw [ht9_5]; rfl) (by decide) ?_
    refine lv_lload_n hx hb dX7_facts_80 rfl (lv_at hl 0 rfl) ?_
    refine xcP (n := 1) (As := [.long (lN m)]) (rest := []) X hw (c_X3_leastLacking l G m hm) gX7_facts_X3_leastLacking rfl ⟨rfl, rfl⟩ (by decide +kernel) ⟨by decide, by decide⟩ rfl hl.1 rfl (Nat.le_of_ble_eq_true rfl) dX7_facts_81 ⟨by decide, by decide⟩ (fun r w1 H locs hp hw => ?_)
    obtain rfl := hp
    refine W.eq (g2 := F0 mt 84 ls [.int (llN m)]) rfl ?_
    refine hret _ _ _ _ _ _ dX7_facts_84 hw ?_
    exact ⟨congrArg (fun z => some (Value.int z)) (by simp [faR, ht9_5]), rfl⟩
  by_cases ht9_6 : x = 6
  · refine lv_tableIn (tgt := 85) hx hb dX7_facts_9 (by rw [ht9_6]; decide) (by rw [ht9_6]; decide) (off := 76) (by rw [ht9_6]; rfl) (by decide) ?_
    refine lv_lload_n hx hb dX7_facts_85 rfl (lv_at hl 0 rfl) ?_
    refine xcP (n := 1) (As := [.long (lN m)]) (rest := []) X hw (c_X3_mostOften l G m hm) gX7_facts_X3_mostOften rfl ⟨rfl, rfl⟩ (by decide +kernel) ⟨by decide, by decide⟩ rfl hl.1 rfl (Nat.le_of_ble_eq_true rfl) dX7_facts_86 ⟨by decide, by decide⟩ (fun r w1 H locs hp hw => ?_)
    obtain rfl := hp
    refine W.eq (g2 := F0 mt 89 ls [.int (moN m)]) rfl ?_
    refine hret _ _ _ _ _ _ dX7_facts_89 hw ?_
    exact ⟨congrArg (fun z => some (Value.int z)) (by simp [faR, ht9_6]), rfl⟩
  refine lv_tableOut (tgt := 90) hx hb dX7_facts_9 (tab_out7 x ht9_0 ht9_1 ht9_2 ht9_3 ht9_4 ht9_5 ht9_6) (by decide) ?_
  refine lv_bipush (v := (-2)) hx hb dX7_facts_90 (by decide) ?_
  refine hret _ _ _ _ _ _ dX7_facts_92 hw ?_
  exact ⟨congrArg (fun z => some (Value.int z)) (by simp [faR, ht9_0, ht9_1, ht9_2, ht9_3, ht9_4, ht9_5, ht9_6]), rfl⟩
