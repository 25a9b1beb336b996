set_option maxHeartbeats 4000000 in
set_option maxRecDepth 100000 in
theorem c_X7_ruler (l : Launch) (G : GG) (xo : Nat) (i1 : Nat) (i2 : Nat) (ru : Nat) (co : Nat) (ik : Int32) (un : Int32) (tp : Int32) (g : Nat) (d : Nat) (r1 : Nat) (ar : Nat → Nat) (kr : Nat) (x : Int32) (v : Int32) (hkr : kr < 2 ^ 31) : CT l G yX7_ruler wsX7_ruler ({ frames := 20, cells := 0, slots := 0, locals := 1149 } : Room) [.ref xo, .int x, .int v] ([(xo, .inr (4, [.ref d, .ref i1, .ref i2, .ref g, .ref ru, .ref co, .int ik, .int un, .int tp]))] ++ sW G ru r1 ar 0 8 kr) (fun r w => ((inR 0 x && inA v) = false ∧ r = some (.int (-2)) ∧ w = ([(xo, .inr (4, [.ref d, .ref i1, .ref i2, .ref g, .ref ru, .ref co, .int ik, .int un, .int tp]))] ++ sW G ru r1 ar 0 8 kr)) ∨ (∃ n : Nat, 2 ≤ n ∧ n ≤ 7 ∧ x = nI n ∧ inA v = true ∧ r = some (.int (ansR 0 n v)) ∧ w = ([(xo, .inr (4, [.ref d, .ref i1, .ref i2, .ref g, .ref ru, .ref co, .int ik, .int un, .int tp]))] ++ sW G ru r1 ar 0 8 (kr ||| 2 ^ n)))) 0 0 := by
  refine ct_i (cc := cX7_ruler) (maxL := 3) (by decide +kernel) rfl (Nat.le_of_ble_eq_true rfl) ?_
  intro p e s mt below meth c A Q X hw hret ls hl
  obtain ⟨hx, hb, -⟩ := id X
  have hl : lv_has ls 3 [(0, .ref xo), (1, .int x), (2, .int v)] := hl
  refine lv_iconst (v := 0) hx hb dX7_ruler_0 (by decide) ?_
  refine lv_iload_n hx hb dX7_ruler_1 rfl (lv_at hl 1 rfl) ?_
  refine xcP (n := 2) (As := [.int 0, .int x]) (rest := []) X hw (c_X7_isSearchable l G 0 x ) gX7_ruler_X7_isSearchable rfl ⟨rfl, rfl⟩ (by decide +kernel) ⟨by decide, by decide⟩ rfl hl.1 rfl (Nat.le_of_ble_eq_true rfl) dX7_ruler_2 ⟨by decide, by decide⟩ (fun r w1 H locs hp hw => ?_)
  obtain rfl := hp
  refine W.eq (g2 := F0 mt 5 ls [.int (bi (inR 0 x))]) rfl ?_
  refine lv_if_eq (tgt := 15) hx hb dX7_ruler_5 (by decide) (fun c5 => ?_) (fun c5 => ?_)
  · have hi := bi_f c5
    refine lv_bipush (v := (-2)) hx hb dX7_ruler_15 (by decide) ?_
    refine hret _ _ _ _ _ _ dX7_ruler_17 hw ?_
    exact Or.inl ⟨by simp_all, rfl, rfl⟩
  · have hi := bi_t c5
    refine lv_iload_n hx hb dX7_ruler_8 rfl (lv_at hl 2 rfl) ?_
    refine xcP (n := 1) (As := [.int v]) (rest := []) X hw (c_X7_isAskable l G v ) gX7_ruler_X7_isAskable rfl ⟨rfl, rfl⟩ (by decide +kernel) ⟨by decide, by decide⟩ rfl hl.1 rfl (Nat.le_of_ble_eq_true rfl) dX7_ruler_9 ⟨by decide, by decide⟩ (fun r w1 H locs hp hw => ?_)
    obtain rfl := hp
    refine W.eq (g2 := F0 mt 12 ls [.int (bi (inA v))]) rfl ?_
    refine lv_if_ne (tgt := 18) hx hb dX7_ruler_12 (by decide) (fun c12 => ?_) (fun c12 => ?_)
    · have hv := bi_t c12
      obtain ⟨n, hn1, hn2, rfl⟩ := inR_r hi
      refine lv_aload_n hx hb dX7_ruler_18 rfl (lv_at hl 0 rfl) ?_
      refine xg X hw (C := RX7) (T := TX7) (N := 9) (by decide +kernel) 0 rfl rfl 4 (by decide) rfl (by decide +kernel) rfl dX7_ruler_19 ?_
      refine lv_iload_n hx hb dX7_ruler_22 rfl (lv_at hl 1 rfl) ?_
      refine xcVS (X0 := [(xo, .inr (4, [.ref d, .ref i1, .ref i2, .ref g, .ref ru, .ref co, .int ik, .int un, .int tp]))]) (n := 1) (As := [.int (nI n)]) (rest := []) (wc := sW G ru r1 ar 0 8 kr) X hw (c_X6_found l G ru r1 ar 0 8 kr n hkr (by omega) (by decide) (Or.inl ⟨rfl, hn1, hn2⟩)) (C := RX6) gX7_ruler_X6_found (q0 := 1) rfl rfl rfl ⟨rfl, rfl⟩ (by decide +kernel) ⟨by decide, by decide⟩ rfl hl.1 rfl (Nat.le_of_ble_eq_true rfl) dX7_ruler_23 ⟨by decide, by decide⟩ (fun r w1 H locs hp hw => ?_)
      obtain ⟨rfl, rfl⟩ := hp
      obtain ⟨L1, L2, hsp⟩ := fs_split ar (fsOf 0 (kr ||| 2 ^ n)) n 8 (by omega)
      unfold sW at hw
      rw [hsp _ (fun _ _ => rfl)] at hw
      have hw := ws_fr (X0 := [(xo, .inr (4, [.ref d, .ref i1, .ref i2, .ref g, .ref ru, .ref co, .int ik, .int un, .int tp])), (ru, .inr (3, [.int (nI 0), .ref r1, .int (nI (kr ||| 2 ^ n)), .int (nI (ttOf 0 (kr ||| 2 ^ n) 8))])), (r1, .inl (G.2.2.2, 8, .inr (.inr (.inr (.inr (fun i => some (ar i)))))))]) (L1 := L1) (L2 := L2) hw
      unfold fC at hw
      try dsimp only at hw
      rw [fsOf_at] at hw
      obtain ⟨⟨y1, y2, y3, y4⟩, hz⟩ : ∃ z, resT 0 n = z := ⟨_, rfl⟩
      have hok := resOk_r n hn1 hn2
      rw [hz] at hw hok
      dsimp only at hw
      have hlt := resOk_lt hok
      dsimp only at hlt
      have hw : WS G A s.heap H locs ((xo, .inr (4, [.ref d, .ref i1, .ref i2, .ref g, .ref ru, .ref co, .int ik, .int un, .int tp])) :: (ru, .inr (3, [.int (nI 0), .ref r1, .int (nI (kr ||| 2 ^ n)), .int (nI (ttOf 0 (kr ||| 2 ^ n) 8))])) :: (r1, .inl (G.2.2.2, 8, .inr (.inr (.inr (.inr (fun i => some (ar i))))))) :: (ar n, .inr (1, [.int (nI n), .int (nI y1), .int (nI y2), .int (nI y3), .long (lN y4)])) :: (L2 ++ L1)) := hw
      refine W.eq (g2 := F0 mt 26 ls [.ref (ar n)]) rfl ?_
      refine lv_iload_n hx hb dX7_ruler_26 rfl (lv_at hl 2 rfl) ?_
      refine xcVT (X0 := [(xo, .inr (4, [.ref d, .ref i1, .ref i2, .ref g, .ref ru, .ref co, .int ik, .int un, .int tp])), (ru, .inr (3, [.int (nI 0), .ref r1, .int (nI (kr ||| 2 ^ n)), .int (nI (ttOf 0 (kr ||| 2 ^ n) 8))])), (r1, .inl (G.2.2.2, 8, .inr (.inr (.inr (.inr (fun i => some (ar i))))))), (ar n, .inr (1, [.int (nI n), .int (nI y1), .int (nI y2), .int (nI y3), .long (lN y4)]))]) (pl := (L2 ++ L1)) (n := 1) (As := [.int v]) (rest := []) (wc := [(ar n, .inr (1, [.int (nI n), .int (nI y1), .int (nI y2), .int (nI y3), .long (lN y4)]))]) (wr := [(xo, .inr (4, [.ref d, .ref i1, .ref i2, .ref g, .ref ru, .ref co, .int ik, .int un, .int tp])), (ru, .inr (3, [.int (nI 0), .ref r1, .int (nI (kr ||| 2 ^ n)), .int (nI (ttOf 0 (kr ||| 2 ^ n) 8))])), (r1, .inl (G.2.2.2, 8, .inr (.inr (.inr (.inr (fun i => some (ar i)))))))]) X hw (c_X2_answer l G (ar n) n y1 y2 y3 y4 v hlt) (C := RX2) gX7_ruler_X2_answer (q0 := 3) rfl rfl rfl ⟨rfl, rfl⟩ (by decide +kernel) ⟨by decide, by decide⟩ rfl hl.1 rfl (Nat.le_of_ble_eq_true rfl) dX7_ruler_27 ⟨by decide, by decide⟩ [3] [0, 1, 2] rfl rfl rfl rfl (by decide) (fun r w1 H locs hp hw => ?_)
      obtain ⟨rfl, rfl⟩ := hp
      have hw : WS G A s.heap H locs ((xo, .inr (4, [.ref d, .ref i1, .ref i2, .ref g, .ref ru, .ref co, .int ik, .int un, .int tp])) :: (ru, .inr (3, [.int (nI 0), .ref r1, .int (nI (kr ||| 2 ^ n)), .int (nI (ttOf 0 (kr ||| 2 ^ n) 8))])) :: (r1, .inl (G.2.2.2, 8, .inr (.inr (.inr (.inr (fun i => some (ar i))))))) :: ((ar n), .inr (1, [.int (nI n), .int (nI y1), .int (nI y2), .int (nI y3), .long (lN y4)])) :: (L2 ++ L1)) := ws_subT (X := [(xo, .inr (4, [.ref d, .ref i1, .ref i2, .ref g, .ref ru, .ref co, .int ik, .int un, .int tp])), (ru, .inr (3, [.int (nI 0), .ref r1, .int (nI (kr ||| 2 ^ n)), .int (nI (ttOf 0 (kr ||| 2 ^ n) 8))])), (r1, .inl (G.2.2.2, 8, .inr (.inr (.inr (.inr (fun i => some (ar i))))))), ((ar n), .inr (1, [.int (nI n), .int (nI y1), .int (nI y2), .int (nI y3), .long (lN y4)]))]) (cx := [(xo, .inr (4, [.ref d, .ref i1, .ref i2, .ref g, .ref ru, .ref co, .int ik, .int un, .int tp])), (ru, .inr (3, [.int (nI 0), .ref r1, .int (nI (kr ||| 2 ^ n)), .int (nI (ttOf 0 (kr ||| 2 ^ n) 8))])), (r1, .inl (G.2.2.2, 8, .inr (.inr (.inr (.inr (fun i => some (ar i))))))), ((ar n), .inr (1, [.int (nI n), .int (nI y1), .int (nI y2), .int (nI y3), .long (lN y4)]))]) (pl := (L2 ++ L1)) hw [0, 1, 2, 3] rfl rfl
      refine W.eq (g2 := F0 mt 30 ls [.int (fnd (nI y1) (nI y2) (nI y3) y4 v)]) rfl ?_
      have hw : WS G A s.heap H locs ([(xo, .inr (4, [.ref d, .ref i1, .ref i2, .ref g, .ref ru, .ref co, .int ik, .int un, .int tp]))] ++ sW G ru r1 ar 0 8 (kr ||| 2 ^ n)) := by
        unfold sW
        rw [hsp _ (fun _ _ => rfl)]
        unfold fC
        try dsimp only
        rw [fsOf_at, hz]
        exact ws_bk (X0 := [(xo, .inr (4, [.ref d, .ref i1, .ref i2, .ref g, .ref ru, .ref co, .int ik, .int un, .int tp])), (ru, .inr (3, [.int (nI 0), .ref r1, .int (nI (kr ||| 2 ^ n)), .int (nI (ttOf 0 (kr ||| 2 ^ n) 8))])), (r1, .inl (G.2.2.2, 8, .inr (.inr (.inr (.inr (fun i => some (ar i)))))))]) (L1 := L1) (L2 := L2) hw
      refine hret _ _ _ _ _ _ dX7_ruler_30 hw ?_
      exact Or.inr ⟨n, hn1, hn2, rfl, hv, by unfold ansR; rw [hz], rfl⟩
    · have hv := bi_f c12
      refine lv_bipush (v := (-2)) hx hb dX7_ruler_15 (by decide) ?_
      refine hret _ _ _ _ _ _ dX7_ruler_17 hw ?_
      exact Or.inl ⟨by simp_all, rfl, rfl⟩

set_option maxHeartbeats 4000000 in
set_option maxRecDepth 100000 in
theorem c_X7_cover (l : Launch) (G : GG) (xo : Nat) (i1 : Nat) (i2 : Nat) (ru : Nat) (co : Nat) (ik : Int32) (un : Int32) (tp : Int32) (g : Nat) (d : Nat) (r2 : Nat) (ac : Nat → Nat) (kc : Nat) (x : Int32) (v : Int32) (hkc : kc < 2 ^ 31) : CT l G yX7_cover wsX7_cover ({ frames := 20, cells := 0, slots := 0, locals := 1149 } : Room) [.ref xo, .int x, .int v] ([(xo, .inr (4, [.ref d, .ref i1, .ref i2, .ref g, .ref ru, .ref co, .int ik, .int un, .int tp]))] ++ sW G co r2 ac 1 21 kc) (fun r w => ((inR 1 x && inA v) = false ∧ r = some (.int (-2)) ∧ w = ([(xo, .inr (4, [.ref d, .ref i1, .ref i2, .ref g, .ref ru, .ref co, .int ik, .int un, .int tp]))] ++ sW G co r2 ac 1 21 kc)) ∨ (∃ n : Nat, 1 ≤ n ∧ n ≤ 20 ∧ x = nI n ∧ inA v = true ∧ r = some (.int (ansR 1 n v)) ∧ w = ([(xo, .inr (4, [.ref d, .ref i1, .ref i2, .ref g, .ref ru, .ref co, .int ik, .int un, .int tp]))] ++ sW G co r2 ac 1 21 (kc ||| 2 ^ n)))) 0 0 := by
  refine ct_i (cc := cX7_cover) (maxL := 3) (by decide +kernel) rfl (Nat.le_of_ble_eq_true rfl) ?_
  intro p e s mt below meth c A Q X hw hret ls hl
  obtain ⟨hx, hb, -⟩ := id X
  have hl : lv_has ls 3 [(0, .ref xo), (1, .int x), (2, .int v)] := hl
  refine lv_iconst (v := 1) hx hb dX7_cover_0 (by decide) ?_
  refine lv_iload_n hx hb dX7_cover_1 rfl (lv_at hl 1 rfl) ?_
  refine xcP (n := 2) (As := [.int 1, .int x]) (rest := []) X hw (c_X7_isSearchable l G 1 x ) gX7_cover_X7_isSearchable rfl ⟨rfl, rfl⟩ (by decide +kernel) ⟨by decide, by decide⟩ rfl hl.1 rfl (Nat.le_of_ble_eq_true rfl) dX7_cover_2 ⟨by decide, by decide⟩ (fun r w1 H locs hp hw => ?_)
  obtain rfl := hp
  refine W.eq (g2 := F0 mt 5 ls [.int (bi (inR 1 x))]) rfl ?_
  refine lv_if_eq (tgt := 15) hx hb dX7_cover_5 (by decide) (fun c5 => ?_) (fun c5 => ?_)
  · have hi := bi_f c5
    refine lv_bipush (v := (-2)) hx hb dX7_cover_15 (by decide) ?_
    refine hret _ _ _ _ _ _ dX7_cover_17 hw ?_
    exact Or.inl ⟨by simp_all, rfl, rfl⟩
  · have hi := bi_t c5
    refine lv_iload_n hx hb dX7_cover_8 rfl (lv_at hl 2 rfl) ?_
    refine xcP (n := 1) (As := [.int v]) (rest := []) X hw (c_X7_isAskable l G v ) gX7_cover_X7_isAskable rfl ⟨rfl, rfl⟩ (by decide +kernel) ⟨by decide, by decide⟩ rfl hl.1 rfl (Nat.le_of_ble_eq_true rfl) dX7_cover_9 ⟨by decide, by decide⟩ (fun r w1 H locs hp hw => ?_)
    obtain rfl := hp
    refine W.eq (g2 := F0 mt 12 ls [.int (bi (inA v))]) rfl ?_
    refine lv_if_ne (tgt := 18) hx hb dX7_cover_12 (by decide) (fun c12 => ?_) (fun c12 => ?_)
    · have hv := bi_t c12
      obtain ⟨n, hn1, hn2, rfl⟩ := inR_c hi
      refine lv_aload_n hx hb dX7_cover_18 rfl (lv_at hl 0 rfl) ?_
      refine xg X hw (C := RX7) (T := TX7) (N := 9) (by decide +kernel) 0 rfl rfl 5 (by decide) rfl (by decide +kernel) rfl dX7_cover_19 ?_
      refine lv_iload_n hx hb dX7_cover_22 rfl (lv_at hl 1 rfl) ?_
      refine xcVS (X0 := [(xo, .inr (4, [.ref d, .ref i1, .ref i2, .ref g, .ref ru, .ref co, .int ik, .int un, .int tp]))]) (n := 1) (As := [.int (nI n)]) (rest := []) (wc := sW G co r2 ac 1 21 kc) X hw (c_X6_found l G co r2 ac 1 21 kc n hkc (by omega) (by decide) (Or.inr ⟨rfl, hn1, hn2⟩)) (C := RX6) gX7_cover_X6_found (q0 := 1) rfl rfl rfl ⟨rfl, rfl⟩ (by decide +kernel) ⟨by decide, by decide⟩ rfl hl.1 rfl (Nat.le_of_ble_eq_true rfl) dX7_cover_23 ⟨by decide, by decide⟩ (fun r w1 H locs hp hw => ?_)
      obtain ⟨rfl, rfl⟩ := hp
      obtain ⟨L1, L2, hsp⟩ := fs_split ac (fsOf 1 (kc ||| 2 ^ n)) n 21 (by omega)
      unfold sW at hw
      rw [hsp _ (fun _ _ => rfl)] at hw
      have hw := ws_fr (X0 := [(xo, .inr (4, [.ref d, .ref i1, .ref i2, .ref g, .ref ru, .ref co, .int ik, .int un, .int tp])), (co, .inr (3, [.int (nI 1), .ref r2, .int (nI (kc ||| 2 ^ n)), .int (nI (ttOf 1 (kc ||| 2 ^ n) 21))])), (r2, .inl (G.2.2.2, 21, .inr (.inr (.inr (.inr (fun i => some (ac i)))))))]) (L1 := L1) (L2 := L2) hw
      unfold fC at hw
      try dsimp only at hw
      rw [fsOf_at] at hw
      obtain ⟨⟨y1, y2, y3, y4⟩, hz⟩ : ∃ z, resT 1 n = z := ⟨_, rfl⟩
      have hok := resOk_c n hn1 hn2
      rw [hz] at hw hok
      dsimp only at hw
      have hlt := resOk_lt hok
      dsimp only at hlt
      have hw : WS G A s.heap H locs ((xo, .inr (4, [.ref d, .ref i1, .ref i2, .ref g, .ref ru, .ref co, .int ik, .int un, .int tp])) :: (co, .inr (3, [.int (nI 1), .ref r2, .int (nI (kc ||| 2 ^ n)), .int (nI (ttOf 1 (kc ||| 2 ^ n) 21))])) :: (r2, .inl (G.2.2.2, 21, .inr (.inr (.inr (.inr (fun i => some (ac i))))))) :: (ac n, .inr (1, [.int (nI n), .int (nI y1), .int (nI y2), .int (nI y3), .long (lN y4)])) :: (L2 ++ L1)) := hw
      refine W.eq (g2 := F0 mt 26 ls [.ref (ac n)]) rfl ?_
      refine lv_iload_n hx hb dX7_cover_26 rfl (lv_at hl 2 rfl) ?_
      refine xcVT (X0 := [(xo, .inr (4, [.ref d, .ref i1, .ref i2, .ref g, .ref ru, .ref co, .int ik, .int un, .int tp])), (co, .inr (3, [.int (nI 1), .ref r2, .int (nI (kc ||| 2 ^ n)), .int (nI (ttOf 1 (kc ||| 2 ^ n) 21))])), (r2, .inl (G.2.2.2, 21, .inr (.inr (.inr (.inr (fun i => some (ac i))))))), (ac n, .inr (1, [.int (nI n), .int (nI y1), .int (nI y2), .int (nI y3), .long (lN y4)]))]) (pl := (L2 ++ L1)) (n := 1) (As := [.int v]) (rest := []) (wc := [(ac n, .inr (1, [.int (nI n), .int (nI y1), .int (nI y2), .int (nI y3), .long (lN y4)]))]) (wr := [(xo, .inr (4, [.ref d, .ref i1, .ref i2, .ref g, .ref ru, .ref co, .int ik, .int un, .int tp])), (co, .inr (3, [.int (nI 1), .ref r2, .int (nI (kc ||| 2 ^ n)), .int (nI (ttOf 1 (kc ||| 2 ^ n) 21))])), (r2, .inl (G.2.2.2, 21, .inr (.inr (.inr (.inr (fun i => some (ac i)))))))]) X hw (c_X2_answer l G (ac n) n y1 y2 y3 y4 v hlt) (C := RX2) gX7_cover_X2_answer (q0 := 3) rfl rfl rfl ⟨rfl, rfl⟩ (by decide +kernel) ⟨by decide, by decide⟩ rfl hl.1 rfl (Nat.le_of_ble_eq_true rfl) dX7_cover_27 ⟨by decide, by decide⟩ [3] [0, 1, 2] rfl rfl rfl rfl (by decide) (fun r w1 H locs hp hw => ?_)
      obtain ⟨rfl, rfl⟩ := hp
      have hw : WS G A s.heap H locs ((xo, .inr (4, [.ref d, .ref i1, .ref i2, .ref g, .ref ru, .ref co, .int ik, .int un, .int tp])) :: (co, .inr (3, [.int (nI 1), .ref r2, .int (nI (kc ||| 2 ^ n)), .int (nI (ttOf 1 (kc ||| 2 ^ n) 21))])) :: (r2, .inl (G.2.2.2, 21, .inr (.inr (.inr (.inr (fun i => some (ac i))))))) :: ((ac n), .inr (1, [.int (nI n), .int (nI y1), .int (nI y2), .int (nI y3), .long (lN y4)])) :: (L2 ++ L1)) := ws_subT (X := [(xo, .inr (4, [.ref d, .ref i1, .ref i2, .ref g, .ref ru, .ref co, .int ik, .int un, .int tp])), (co, .inr (3, [.int (nI 1), .ref r2, .int (nI (kc ||| 2 ^ n)), .int (nI (ttOf 1 (kc ||| 2 ^ n) 21))])), (r2, .inl (G.2.2.2, 21, .inr (.inr (.inr (.inr (fun i => some (ac i))))))), ((ac n), .inr (1, [.int (nI n), .int (nI y1), .int (nI y2), .int (nI y3), .long (lN y4)]))]) (cx := [(xo, .inr (4, [.ref d, .ref i1, .ref i2, .ref g, .ref ru, .ref co, .int ik, .int un, .int tp])), (co, .inr (3, [.int (nI 1), .ref r2, .int (nI (kc ||| 2 ^ n)), .int (nI (ttOf 1 (kc ||| 2 ^ n) 21))])), (r2, .inl (G.2.2.2, 21, .inr (.inr (.inr (.inr (fun i => some (ac i))))))), ((ac n), .inr (1, [.int (nI n), .int (nI y1), .int (nI y2), .int (nI y3), .long (lN y4)]))]) (pl := (L2 ++ L1)) hw [0, 1, 2, 3] rfl rfl
      refine W.eq (g2 := F0 mt 30 ls [.int (fnd (nI y1) (nI y2) (nI y3) y4 v)]) rfl ?_
      have hw : WS G A s.heap H locs ([(xo, .inr (4, [.ref d, .ref i1, .ref i2, .ref g, .ref ru, .ref co, .int ik, .int un, .int tp]))] ++ sW G co r2 ac 1 21 (kc ||| 2 ^ n)) := by
        unfold sW
        rw [hsp _ (fun _ _ => rfl)]
        unfold fC
        try dsimp only
        rw [fsOf_at, hz]
        exact ws_bk (X0 := [(xo, .inr (4, [.ref d, .ref i1, .ref i2, .ref g, .ref ru, .ref co, .int ik, .int un, .int tp])), (co, .inr (3, [.int (nI 1), .ref r2, .int (nI (kc ||| 2 ^ n)), .int (nI (ttOf 1 (kc ||| 2 ^ n) 21))])), (r2, .inl (G.2.2.2, 21, .inr (.inr (.inr (.inr (fun i => some (ac i)))))))]) (L1 := L1) (L2 := L2) hw
      refine hret _ _ _ _ _ _ dX7_cover_30 hw ?_
      exact Or.inr ⟨n, hn1, hn2, rfl, hv, by unfold ansR; rw [hz], rfl⟩
    · have hv := bi_f c12
      refine lv_bipush (v := (-2)) hx hb dX7_cover_15 (by decide) ?_
      refine hret _ _ _ _ _ _ dX7_cover_17 hw ?_
      exact Or.inl ⟨by simp_all, rfl, rfl⟩
