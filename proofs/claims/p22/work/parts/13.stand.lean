set_option maxHeartbeats 4000000 in
set_option maxRecDepth 100000 in
theorem c_X1_standAs (l : Launch) (G : GG) (d : Nat) (e0 : Nat) (k0 : Nat) (m : Nat) (er : Nat → Int32) (sk : Nat → Int32) (L : Nat) (hm : m < 2 ^ 61) (hL : L < 2 ^ 61) : CT l G yX1_standAs wsX1_standAs ({ frames := 3, cells := 0, slots := 0, locals := 62 } : Room) [.ref d, .long (lN L)] [(d, .inr (0, [.long (lN m), .ref e0, .ref k0])), (e0, .inl (G.2.1, 61, .inl er)), (k0, .inl (G.2.1, 61, .inl sk))] (fun r w => r = none ∧ w = [(d, .inr (0, [.long (lN L), .ref e0, .ref k0])), (e0, .inl (G.2.1, 61, .inl (fa_fill (stE L) er 61))), (k0, .inl (G.2.1, 61, .inl sk))]) 0 0 := by
  refine ct_v (cc := cX1_standAs) (maxL := 4) (by decide +kernel) rfl (Nat.le_of_ble_eq_true rfl) ?_
  intro p e s mt below meth c A Q X hw hret ls hl
  obtain ⟨hx, hb, -⟩ := id X
  have hl : lv_has ls 4 [(0, .ref d), (1, .long (lN L))] := hl
  refine lv_iconst (v := 0) hx hb dX1_standAs_0 (by decide) ?_
  refine x_cvi (y := nI 0) (by rfl) ?_
  refine lv_istore_n (lv' := [(3, .int (nI 0)), (0, .ref d), (1, .long (lN L))]) hx hb dX1_standAs_1 rfl hl (by decide) rfl (fun ls hl => ?_)
  have lp2 : ∀ (fu : Nat) (q : Nat) (mk : Nat) (H : Heap) (locs : List Loc) (ls : Array Slot), 61 - q < fu → (q ≤ 61) → (mk < 2 ^ 61) → (∀ j, mk.testBit j = if j < q then L.testBit j else m.testBit j) → WS G A s.heap H locs [(d, .inr (0, [.long (lN mk), .ref e0, .ref k0])), (e0, .inl (G.2.1, 61, .inl (fa_fill (stE L) er q))), (k0, .inl (G.2.1, 61, .inl sk))] → lv_has ls 4 [(0, .ref d), (1, .long (lN L)), (3, .int (nI q))] → W p l e ({ frames := 3, cells := 0, slots := 0, locals := 62 } : Room) s mt ([.ref d, .long (lN L)] : List Value).toArray below meth c H locs 0 0 Q (F0 mt 2 ls []) := by
    intro fu
    induction fu with
    | zero =>
      intro q mk H locs ls hmu
      exact absurd hmu (Nat.not_lt_zero _)
    | succ fu ih2 =>
      intro q mk H locs ls hmu2 hq hmk hall hw hl
      refine lv_iload_n hx hb dX1_standAs_2 rfl (lv_at hl 2 rfl) ?_
      refine lv_bipush (v := 60) hx hb dX1_standAs_3 (by decide) ?_
      refine lv_icmp_gt (tgt := 33) hx hb dX1_standAs_5 (by decide) (fun c5 => ?_) (fun c5 => ?_)
      · have hk2 : 60 < q := i_lt (by decide) (by omega) c5
        refine hret _ _ _ _ _ dX1_standAs_33 hw ?_
        rw [show q = 61 by omega] at hall ⊢
        exact ⟨rfl, by rw [sta_end hm hL hmk hall]⟩
      · have hk2 : q ≤ 60 := i_nlt (by decide) (by omega) c5
        refine lv_aload_n hx hb dX1_standAs_8 rfl (lv_at hl 0 rfl) ?_
        refine lv_iload_n hx hb dX1_standAs_9 rfl (lv_at hl 2 rfl) ?_
        refine lv_lload_n hx hb dX1_standAs_10 rfl (lv_at hl 1 rfl) ?_
        refine lv_iload_n hx hb dX1_standAs_11 rfl (lv_at hl 2 rfl) ?_
        refine xcP (n := 2) (As := [.long (lN L), .int (nI q)]) (rest := [.int (nI q), .ref d]) X hw (c_X3_has l G L (nI q) hL) gX1_standAs_X3_has rfl ⟨rfl, rfl⟩ (by decide +kernel) ⟨by decide, by decide⟩ rfl hl.1 rfl (Nat.le_of_ble_eq_true rfl) dX1_standAs_12 ⟨by decide, by decide⟩ (fun r w1 H locs hp hw => ?_)
        obtain rfl := hp
        refine W.eq (g2 := F0 mt 15 ls [.int (bi (stn L (nI q))), .int (nI q), .ref d]) rfl ?_
        refine lv_if_eq (tgt := 22) hx hb dX1_standAs_15 (by decide) (fun c15 => ?_) (fun c15 => ?_)
        · have hbt : L.testBit q = false := by rw [← stn_nI hk2]; exact bi_f c15
          refine lv_bipush (v := (-6)) hx hb dX1_standAs_22 (by decide) ?_
          refine x_cvi (y := stE L q) (by unfold stE; rw [if_neg (by rw [hbt]; decide)]) ?_
          refine xcV (n := 2) (As := [.int (nI q), .int (stE L q)]) (rest := []) (wc := [(d, .inr (0, [.long (lN mk), .ref e0, .ref k0])), (e0, .inl (G.2.1, 61, .inl (fa_fill (stE L) er q))), (k0, .inl (G.2.1, 61, .inl sk))]) (wr := []) X hw (c_X1_become l G d e0 k0 mk (fa_fill (stE L) er q) sk q (stE L q) hk2) (C := RX1) gX1_standAs_X1_become (q0 := 0) rfl rfl rfl ⟨rfl, rfl⟩ (by decide +kernel) ⟨by decide, by decide⟩ rfl hl.1 rfl (Nat.le_of_ble_eq_true rfl) dX1_standAs_24 ⟨by decide, by decide⟩ [0, 1, 2] [] rfl rfl rfl rfl (by decide) (fun r w1 H locs hp hw => ?_)
          obtain ⟨rfl, rfl⟩ := hp
          have hw := hw.sub (ws' := [(d, .inr (0, [.long (lN (bcm mk q (stE L q))), .ref e0, .ref k0])), (e0, .inl (G.2.1, 61, .inl (upd (fa_fill (stE L) er q) q (stE L q)))), (k0, .inl (G.2.1, 61, .inl sk))]) [0, 1, 2] rfl rfl
          refine W.eq (g2 := F0 mt 27 ls []) rfl ?_
          refine lv_iinc (v := nI (q + 1)) (lv' := [(3, .int (nI (q + 1))), (0, .ref d), (1, .long (lN L))]) hx hb dX1_standAs_27 hl (k := 2) rfl (by exact nI_1 _) (by decide) rfl (fun ls hl => ?_)
          refine lv_goto (tgt := 2) hx hb dX1_standAs_30 (by decide) ?_
          rw [fa_fill_succ] at hw
          exact ih2 (q + 1) (bcm mk q (stE L q)) _ _ _ (by omega) (by omega) (bcm_lt hmk hk2) (sta_step hall) hw (lv_sub hl [1, 2, 0] rfl)
        · have hbt : L.testBit q = true := by rw [← stn_nI hk2]; exact bi_t c15
          refine lv_iconst (v := 0) hx hb dX1_standAs_18 (by decide) ?_
          refine x_cvi (y := stE L q) (by unfold stE; rw [if_pos hbt]) ?_
          refine lv_goto (tgt := 24) hx hb dX1_standAs_19 (by decide) ?_
          refine xcV (n := 2) (As := [.int (nI q), .int (stE L q)]) (rest := []) (wc := [(d, .inr (0, [.long (lN mk), .ref e0, .ref k0])), (e0, .inl (G.2.1, 61, .inl (fa_fill (stE L) er q))), (k0, .inl (G.2.1, 61, .inl sk))]) (wr := []) X hw (c_X1_become l G d e0 k0 mk (fa_fill (stE L) er q) sk q (stE L q) hk2) (C := RX1) gX1_standAs_X1_become (q0 := 0) rfl rfl rfl ⟨rfl, rfl⟩ (by decide +kernel) ⟨by decide, by decide⟩ rfl hl.1 rfl (Nat.le_of_ble_eq_true rfl) dX1_standAs_24 ⟨by decide, by decide⟩ [0, 1, 2] [] rfl rfl rfl rfl (by decide) (fun r w1 H locs hp hw => ?_)
          obtain ⟨rfl, rfl⟩ := hp
          have hw := hw.sub (ws' := [(d, .inr (0, [.long (lN (bcm mk q (stE L q))), .ref e0, .ref k0])), (e0, .inl (G.2.1, 61, .inl (upd (fa_fill (stE L) er q) q (stE L q)))), (k0, .inl (G.2.1, 61, .inl sk))]) [0, 1, 2] rfl rfl
          refine W.eq (g2 := F0 mt 27 ls []) rfl ?_
          refine lv_iinc (v := nI (q + 1)) (lv' := [(3, .int (nI (q + 1))), (0, .ref d), (1, .long (lN L))]) hx hb dX1_standAs_27 hl (k := 2) rfl (by exact nI_1 _) (by decide) rfl (fun ls hl => ?_)
          refine lv_goto (tgt := 2) hx hb dX1_standAs_30 (by decide) ?_
          rw [fa_fill_succ] at hw
          exact ih2 (q + 1) (bcm mk q (stE L q)) _ _ _ (by omega) (by omega) (bcm_lt hmk hk2) (sta_step hall) hw (lv_sub hl [1, 2, 0] rfl)
  have hw : WS G A s.heap s.heap [] [(d, .inr (0, [.long (lN m), .ref e0, .ref k0])), (e0, .inl (G.2.1, 61, .inl (fa_fill (stE L) er 0))), (k0, .inl (G.2.1, 61, .inl sk))] := hw
  exact lp2 _ 0 m _ _ _ (Nat.lt_succ_self _) (by decide) (hm) (fun j => by simp) hw (lv_sub hl [1, 2, 0] rfl)
