set_option maxHeartbeats 4000000 in
set_option maxRecDepth 100000 in
theorem c_X2_init (l : Launch) (G : GG) (f : Nat) (n : Nat)  : CT l G yX2_init wsX2_init ({ frames := 1, cells := 0, slots := 0, locals := 20 } : Room) [.ref f, .int (nI n)] [(f, .inr (1, [.int (nI 0), .int (nI 0), .int (nI 0), .int (nI 0), .long (lN 0)]))] (fun r w => r = none ∧ w = [(f, .inr (1, [.int (nI n), .int (nI 0), .int (nI 0), .int (nI 0), .long (lN 0)]))]) 0 0 := by
  refine ct_v (cc := cX2_init) (maxL := 2) (by decide +kernel) rfl (Nat.le_of_ble_eq_true rfl) ?_
  intro p e s mt below meth c A Q X hw hret ls hl
  obtain ⟨hx, hb, -⟩ := id X
  have hl : lv_has ls 2 [(0, .ref f), (1, .int (nI n))] := hl
  refine lv_aload_n hx hb dX2_init_0 rfl (lv_at hl 0 rfl) ?_
  refine W.objInit hx hb X.2.2.2.1 (X.2.2.2.2.1 _ (by decide +kernel : Cond.methodLink RX2 3 objectInit ∈ wsX2_init)) (X.2.2.2.2.1 _ (by decide +kernel : Cond.instanceMethod objectInit ∈ wsX2_init)) (X.2.2.2.2.1 _ (by decide +kernel : Cond.code objectInit ⟨#[0xb1]⟩ 1 none ∈ wsX2_init)) rfl (by rw [X.2.2.1]; exact hl.1) rfl dX2_init_1 (Nat.le_of_ble_eq_true rfl) (Nat.le_of_ble_eq_true rfl) ?_
  refine W.eq (g2 := F0 mt 4 ls []) rfl ?_
  refine lv_aload_n hx hb dX2_init_4 rfl (lv_at hl 0 rfl) ?_
  refine lv_iload_n hx hb dX2_init_5 rfl (lv_at hl 1 rfl) ?_
  refine xpF X hw (ty := .int) (T := TX2) (N := 5) (by decide +kernel) tyX2 tyX2_ok nmX2 0 rfl rfl 0 (by decide) rfl (by decide +kernel) rfl (by decide +kernel) rfl rfl (Nat.le_of_ble_eq_true rfl) dX2_init_6 (ws' := [(f, .inr (1, [.int (nI n), .int (nI 0), .int (nI 0), .int (nI 0), .long (lN 0)]))]) rfl (fun H locs hw => ?_)
  refine hret _ _ _ _ _ dX2_init_9 hw ?_
  exact ⟨rfl, rfl⟩

set_option maxHeartbeats 4000000 in
set_option maxRecDepth 100000 in
theorem c_X4_init (l : Launch) (G : GG) (g : Nat)  : CT l G yX4_init wsX4_init ({ frames := 1, cells := 2, slots := 32, locals := 20 } : Room) [.ref g] [(g, .inr (2, [.null, .null, .int (nI 0), .int (nI 0)]))] (fun r w => r = none ∧ ∃ s0 b0 : Nat, w = [(g, .inr (2, [.ref s0, .ref b0, .int (nI 0), .int (nI 0)])), (s0, .inl (G.2.1, 16, .inl (fun _ => 0))), (b0, .inl (G.2.1, 16, .inl (fun _ => 0)))]) 2 32 := by
  refine ct_v (cc := cX4_init) (maxL := 1) (by decide +kernel) rfl (Nat.le_of_ble_eq_true rfl) ?_
  intro p e s mt below meth c A Q X hw hret ls hl
  obtain ⟨hx, hb, -⟩ := id X
  have hl : lv_has ls 1 [(0, .ref g)] := hl
  refine lv_aload_n hx hb dX4_init_0 rfl (lv_at hl 0 rfl) ?_
  refine W.objInit hx hb X.2.2.2.1 (X.2.2.2.2.1 _ (by decide +kernel : Cond.methodLink RX4 1 objectInit ∈ wsX4_init)) (X.2.2.2.2.1 _ (by decide +kernel : Cond.instanceMethod objectInit ∈ wsX4_init)) (X.2.2.2.2.1 _ (by decide +kernel : Cond.code objectInit ⟨#[0xb1]⟩ 1 none ∈ wsX4_init)) rfl (by rw [X.2.2.1]; exact hl.1) rfl dX4_init_1 (Nat.le_of_ble_eq_true rfl) (Nat.le_of_ble_eq_true rfl) ?_
  refine W.eq (g2 := F0 mt 4 ls []) rfl ?_
  refine lv_aload_n hx hb dX4_init_4 rfl (lv_at hl 0 rfl) ?_
  refine lv_bipush (v := 16) hx hb dX4_init_5 (by decide) ?_
  refine xnewI X hw (by decide +kernel) (N := 16) rfl (by decide) ⟨by decide, by decide⟩ dX4_init_7 (fun q7 H hw => ?_)
  have hw : WS G A s.heap H _ [(g, .inr (2, [.null, .null, .int (nI 0), .int (nI 0)])), (q7, .inl (G.2.1, 16, .inl (fun _ => 0)))] := hw
  refine xpF X hw (ty := .array .int) (T := TX4) (N := 4) (by decide +kernel) tyX4 tyX4_ok nmX4 0 rfl rfl 0 (by decide) rfl (by decide +kernel) rfl (by decide +kernel) rfl rfl (Nat.le_of_ble_eq_true rfl) dX4_init_9 (ws' := [(g, .inr (2, [.ref q7, .null, .int (nI 0), .int (nI 0)])), (q7, .inl (G.2.1, 16, .inl (fun _ => 0)))]) rfl (fun H locs hw => ?_)
  refine lv_aload_n hx hb dX4_init_12 rfl (lv_at hl 0 rfl) ?_
  refine lv_bipush (v := 16) hx hb dX4_init_13 (by decide) ?_
  refine xnewI X hw (by decide +kernel) (N := 16) rfl (by decide) ⟨by decide, by decide⟩ dX4_init_15 (fun q15 H hw => ?_)
  have hw : WS G A s.heap H _ [(g, .inr (2, [.ref q7, .null, .int (nI 0), .int (nI 0)])), (q7, .inl (G.2.1, 16, .inl (fun _ => 0))), (q15, .inl (G.2.1, 16, .inl (fun _ => 0)))] := hw
  refine xpF X hw (ty := .array .int) (T := TX4) (N := 4) (by decide +kernel) tyX4 tyX4_ok nmX4 0 rfl rfl 1 (by decide) rfl (by decide +kernel) rfl (by decide +kernel) rfl rfl (Nat.le_of_ble_eq_true rfl) dX4_init_17 (ws' := [(g, .inr (2, [.ref q7, .ref q15, .int (nI 0), .int (nI 0)])), (q7, .inl (G.2.1, 16, .inl (fun _ => 0))), (q15, .inl (G.2.1, 16, .inl (fun _ => 0)))]) rfl (fun H locs hw => ?_)
  refine hret _ _ _ _ _ dX4_init_20 hw ?_
  exact ⟨rfl, _, _, rfl⟩

set_option maxHeartbeats 4000000 in
set_option maxRecDepth 100000 in
theorem c_X1_init (l : Launch) (G : GG) (d : Nat)  : CT l G yX1_init wsX1_init ({ frames := 4, cells := 2, slots := 122, locals := 85 } : Room) [.ref d] [(d, .inr (0, [.long (lN 0), .null, .null]))] (fun r w => r = none ∧ ∃ e0 k0 : Nat, w = [(d, .inr (0, [.long (lN 0), .ref e0, .ref k0])), (e0, .inl (G.2.1, 61, .inl (fa_fill (stE 0) (fun _ => 0) 61))), (k0, .inl (G.2.1, 61, .inl (fun _ => 0)))]) 2 122 := by
  refine ct_v (cc := cX1_init) (maxL := 1) (by decide +kernel) rfl (Nat.le_of_ble_eq_true rfl) ?_
  intro p e s mt below meth c A Q X hw hret ls hl
  obtain ⟨hx, hb, -⟩ := id X
  have hl : lv_has ls 1 [(0, .ref d)] := hl
  refine lv_aload_n hx hb dX1_init_0 rfl (lv_at hl 0 rfl) ?_
  refine W.objInit hx hb X.2.2.2.1 (X.2.2.2.2.1 _ (by decide +kernel : Cond.methodLink RX1 3 objectInit ∈ wsX1_init)) (X.2.2.2.2.1 _ (by decide +kernel : Cond.instanceMethod objectInit ∈ wsX1_init)) (X.2.2.2.2.1 _ (by decide +kernel : Cond.code objectInit ⟨#[0xb1]⟩ 1 none ∈ wsX1_init)) rfl (by rw [X.2.2.1]; exact hl.1) rfl dX1_init_1 (Nat.le_of_ble_eq_true rfl) (Nat.le_of_ble_eq_true rfl) ?_
  refine W.eq (g2 := F0 mt 4 ls []) rfl ?_
  refine lv_aload_n hx hb dX1_init_4 rfl (lv_at hl 0 rfl) ?_
  refine lv_bipush (v := 61) hx hb dX1_init_5 (by decide) ?_
  refine xnewI X hw (by decide +kernel) (N := 61) rfl (by decide) ⟨by decide, by decide⟩ dX1_init_7 (fun q7 H hw => ?_)
  have hw : WS G A s.heap H _ [(d, .inr (0, [.long (lN 0), .null, .null])), (q7, .inl (G.2.1, 61, .inl (fun _ => 0)))] := hw
  refine xpF X hw (ty := .array .int) (T := TX1) (N := 3) (by decide +kernel) tyX1 tyX1_ok nmX1 0 rfl rfl 1 (by decide) rfl (by decide +kernel) rfl (by decide +kernel) rfl rfl (Nat.le_of_ble_eq_true rfl) dX1_init_9 (ws' := [(d, .inr (0, [.long (lN 0), .ref q7, .null])), (q7, .inl (G.2.1, 61, .inl (fun _ => 0)))]) rfl (fun H locs hw => ?_)
  refine lv_aload_n hx hb dX1_init_12 rfl (lv_at hl 0 rfl) ?_
  refine lv_bipush (v := 61) hx hb dX1_init_13 (by decide) ?_
  refine xnewI X hw (by decide +kernel) (N := 61) rfl (by decide) ⟨by decide, by decide⟩ dX1_init_15 (fun q15 H hw => ?_)
  have hw : WS G A s.heap H _ [(d, .inr (0, [.long (lN 0), .ref q7, .null])), (q7, .inl (G.2.1, 61, .inl (fun _ => 0))), (q15, .inl (G.2.1, 61, .inl (fun _ => 0)))] := hw
  refine xpF X hw (ty := .array .int) (T := TX1) (N := 3) (by decide +kernel) tyX1 tyX1_ok nmX1 0 rfl rfl 2 (by decide) rfl (by decide +kernel) rfl (by decide +kernel) rfl rfl (Nat.le_of_ble_eq_true rfl) dX1_init_17 (ws' := [(d, .inr (0, [.long (lN 0), .ref q7, .ref q15])), (q7, .inl (G.2.1, 61, .inl (fun _ => 0))), (q15, .inl (G.2.1, 61, .inl (fun _ => 0)))]) rfl (fun H locs hw => ?_)
  refine lv_aload_n hx hb dX1_init_20 rfl (lv_at hl 0 rfl) ?_
  refine lv_lconst (v := 0) hx hb dX1_init_21 (by decide) ?_
  refine x_cvl (y := lN 0) (by rfl) ?_
  refine xcV (n := 1) (As := [.long (lN 0)]) (rest := []) (wc := [(d, .inr (0, [.long (lN 0), .ref q7, .ref q15])), (q7, .inl (G.2.1, 61, .inl (fun _ => 0))), (q15, .inl (G.2.1, 61, .inl (fun _ => 0)))]) (wr := []) X hw (c_X1_standAs l G d q7 q15 0 (fun _ => 0) (fun _ => 0) 0 (by decide) (by decide)) (C := RX1) gX1_init_X1_standAs (q0 := 0) rfl rfl rfl ⟨rfl, rfl⟩ (by decide +kernel) ⟨by decide, by decide⟩ rfl hl.1 rfl (Nat.le_of_ble_eq_true rfl) dX1_init_22 ⟨by decide, by decide⟩ [0, 1, 2] [] rfl rfl rfl rfl (by decide) (fun r w1 H locs hp hw => ?_)
  obtain ⟨rfl, rfl⟩ := hp
  have hw := hw.sub (ws' := [(d, .inr (0, [.long (lN 0), .ref q7, .ref q15])), (q7, .inl (G.2.1, 61, .inl (fa_fill (stE 0) (fun _ => 0) 61))), (q15, .inl (G.2.1, 61, .inl (fun _ => 0)))]) [0, 1, 2] rfl rfl
  refine W.eq (g2 := F0 mt 25 ls []) rfl ?_
  refine hret _ _ _ _ _ dX1_init_25 hw ?_
  exact ⟨rfl, _, _, rfl⟩
