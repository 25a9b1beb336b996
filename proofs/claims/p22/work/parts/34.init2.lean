set_option maxHeartbeats 4000000 in
set_option maxRecDepth 100000 in
theorem c_X6_init (l : Launch) (G : GG) (s0 : Nat) (kd : Nat) (gr : Nat) (hgr : gr ≤ 30) : CT l G yX6_init wsX6_init ({ frames := 4, cells := gr + 2, slots := 6 * (gr + 1), locals := 120 } : Room) [.ref s0, .int (nI kd), .int (nI gr)] [(s0, .inr (3, [.int (nI 0), .null, .int (nI 0), .int (nI 0)]))] (fun r w => r = none ∧ ∃ (r0 : Nat) (ad : Nat → Nat), w = sW G s0 r0 ad kd (gr + 1) 0) (gr + 2) (6 * (gr + 1)) := by
  refine ct_v (cc := cX6_init) (maxL := 4) (by decide +kernel) rfl (Nat.le_of_ble_eq_true rfl) ?_
  intro p e s mt below meth c A Q X hw hret ls hl
  obtain ⟨hx, hb, -⟩ := id X
  have hl : lv_has ls 4 [(0, .ref s0), (1, .int (nI kd)), (2, .int (nI gr))] := hl
  refine lv_aload_n hx hb dX6_init_0 rfl (lv_at hl 0 rfl) ?_
  refine W.objInit hx hb X.2.2.2.1 (X.2.2.2.2.1 _ (by decide +kernel : Cond.methodLink RX6 3 objectInit ∈ wsX6_init)) (X.2.2.2.2.1 _ (by decide +kernel : Cond.instanceMethod objectInit ∈ wsX6_init)) (X.2.2.2.2.1 _ (by decide +kernel : Cond.code objectInit ⟨#[0xb1]⟩ 1 none ∈ wsX6_init)) rfl (by rw [X.2.2.1]; exact hl.1) rfl dX6_init_1 (Nat.le_of_ble_eq_true rfl) (Nat.le_of_ble_eq_true rfl) ?_
  refine W.eq (g2 := F0 mt 4 ls []) rfl ?_
  refine lv_aload_n hx hb dX6_init_4 rfl (lv_at hl 0 rfl) ?_
  refine lv_iload_n hx hb dX6_init_5 rfl (lv_at hl 1 rfl) ?_
  refine xpF X hw (ty := .int) (T := TX6) (N := 4) (by decide +kernel) tyX6 tyX6_ok nmX6 0 rfl rfl 0 (by decide) rfl (by decide +kernel) rfl (by decide +kernel) rfl rfl (Nat.le_of_ble_eq_true rfl) dX6_init_6 (ws' := [(s0, .inr (3, [.int (nI kd), .null, .int (nI 0), .int (nI 0)]))]) rfl (fun H locs hw => ?_)
  refine lv_aload_n hx hb dX6_init_9 rfl (lv_at hl 0 rfl) ?_
  refine lv_iload_n hx hb dX6_init_10 rfl (lv_at hl 2 rfl) ?_
  refine lv_iconst (v := 1) hx hb dX6_init_11 (by decide) ?_
  refine lv_iadd hx hb dX6_init_12 ?_
  refine x_cvi (y := nI (gr + 1)) (by exact nI_1 _) ?_
  refine xnewF X hw (by decide +kernel) (N := (gr + 1)) rfl (by omega) ⟨by dsimp only; omega, by dsimp only; omega⟩ dX6_init_13 (fun q13 H hw => ?_)
  have hw : WS G A s.heap H _ [(s0, .inr (3, [.int (nI kd), .null, .int (nI 0), .int (nI 0)])), (q13, .inl (G.2.2.2, (gr + 1), .inr (.inr (.inr (.inr (fun _ => none))))))] := hw
  refine xpF X hw (ty := .array (.object "SparseDishes$Found")) (T := TX6) (N := 4) (by decide +kernel) tyX6 tyX6_ok nmX6 0 rfl rfl 1 (by decide) rfl (by decide +kernel) rfl (by decide +kernel) rfl rfl (Nat.le_of_ble_eq_true rfl) dX6_init_16 (ws' := [(s0, .inr (3, [.int (nI kd), .ref q13, .int (nI 0), .int (nI 0)])), (q13, .inl (G.2.2.2, (gr + 1), .inr (.inr (.inr (.inr (fun _ => none))))))]) rfl (fun H locs hw => ?_)
  refine lv_iconst (v := 0) hx hb dX6_init_19 (by decide) ?_
  refine x_cvi (y := nI 0) (by rfl) ?_
  refine lv_istore_n (lv' := [(3, .int (nI 0)), (0, .ref s0), (1, .int (nI kd)), (2, .int (nI gr))]) hx hb dX6_init_20 rfl hl (by decide) rfl (fun ls hl => ?_)
  have lp21 : ∀ (fu : Nat) (i : Nat) (ad : Nat → Nat) (H : Heap) (locs : List Loc) (ls : Array Slot), gr + 1 - i < fu → (i ≤ gr + 1) → WS G A s.heap H locs ((s0, .inr (3, [.int (nI kd), .ref q13, .int (nI 0), .int (nI 0)])) :: (q13, .inl (G.2.2.2, gr + 1, .inr (.inr (.inr (.inr (rfs ad i)))))) :: fsW ad fz i) → lv_has ls 4 [(0, .ref s0), (3, .int (nI i))] → W p l e ({ frames := 4, cells := gr + 2, slots := 6 * (gr + 1), locals := 120 } : Room) s mt ([.ref s0, .int (nI kd), .int (nI gr)] : List Value).toArray below meth c H locs (1 + i) ((gr + 1) + 5 * i) Q (F0 mt 21 ls []) := by
    intro fu
    induction fu with
    | zero =>
      intro i ad H locs ls hmu
      exact absurd hmu (Nat.not_lt_zero _)
    | succ fu ih21 =>
      intro i ad H locs ls hmu21 hi hw hl
      refine lv_iload_n hx hb dX6_init_21 rfl (lv_at hl 1 rfl) ?_
      refine lv_aload_n hx hb dX6_init_22 rfl (lv_at hl 0 rfl) ?_
      refine xg X hw (C := RX6) (T := TX6) (N := 4) (by decide +kernel) 0 rfl rfl 1 (by decide) rfl (by decide +kernel) rfl dX6_init_23 ?_
      refine xlen X hw 1 2 rfl rfl (v := nI (gr + 1)) (by rfl) dX6_init_26 ?_
      refine lv_icmp_ge (tgt := 50) hx hb dX6_init_27 (by decide) (fun c27 => ?_) (fun c27 => ?_)
      · have hk2 : gr + 1 ≤ i := i_le (by omega) (by omega) c27
        have hig : i = gr + 1 := by omega
        subst hig
        have hw := sW_new hw
        refine W.widen (k := gr + 2) (n := 6 * (gr + 1)) (by omega) (by omega) ?_
        refine hret _ _ _ _ _ dX6_init_50 hw ?_
        exact ⟨rfl, _, _, rfl⟩
      · have hk2 : i < gr + 1 := i_nle (by omega) (by omega) c27
        refine lv_aload_n hx hb dX6_init_30 rfl (lv_at hl 0 rfl) ?_
        refine xg X hw (C := RX6) (T := TX6) (N := 4) (by decide +kernel) 0 rfl rfl 1 (by decide) rfl (by decide +kernel) rfl dX6_init_31 ?_
        refine lv_iload_n hx hb dX6_init_34 rfl (lv_at hl 1 rfl) ?_
        refine xnew X hw (C := RX2) (T := TX2) (N := 5) (ci := 1) (by decide +kernel) tyX2 tyX2_ok (by decide +kernel) (by decide +kernel) (by decide +kernel) rfl (fs := [.int (nI 0), .int (nI 0), .int (nI 0), .int (nI 0), .long (lN 0)]) (fun j hj => by rcases (show j = 0 ∨ j = 1 ∨ j = 2 ∨ j = 3 ∨ j = 4 by omega) with rfl | rfl | rfl | rfl | rfl <;> rfl) ⟨by dsimp only; omega, by dsimp only; omega⟩ dX6_init_35 (fun q35 H hw => ?_)
        have hw := ws_swap (a := [(s0, .inr (3, [.int (nI kd), .ref q13, .int (nI 0), .int (nI 0)])), (q13, .inl (G.2.2.2, gr + 1, .inr (.inr (.inr (.inr (rfs ad i))))))]) (b := fsW ad fz i) (c := [(q35, .inr (1, [.int (nI 0), .int (nI 0), .int (nI 0), .int (nI 0), .long (lN 0)]))]) hw
        have hw : WS G A s.heap H _ ((s0, .inr (3, [.int (nI kd), .ref q13, .int (nI 0), .int (nI 0)])) :: (q13, .inl (G.2.2.2, gr + 1, .inr (.inr (.inr (.inr (rfs ad i)))))) :: (q35, .inr (1, [.int (nI 0), .int (nI 0), .int (nI 0), .int (nI 0), .long (lN 0)])) :: fsW ad fz i) := hw
        refine lv_dup hx hb dX6_init_38 rfl ?_
        refine lv_iload_n hx hb dX6_init_39 rfl (lv_at hl 1 rfl) ?_
        refine xcIT (X0 := [(s0, .inr (3, [.int (nI kd), .ref q13, .int (nI 0), .int (nI 0)])), (q13, .inl (G.2.2.2, gr + 1, .inr (.inr (.inr (.inr (rfs ad i)))))), (q35, .inr (1, [.int (nI 0), .int (nI 0), .int (nI 0), .int (nI 0), .long (lN 0)]))]) (pl := fsW ad fz i) (n := 1) (As := [.int (nI i)]) (rest := [.ref q35, .int (nI i), .ref q13]) (wc := [(q35, .inr (1, [.int (nI 0), .int (nI 0), .int (nI 0), .int (nI 0), .long (lN 0)]))]) (wr := [(s0, .inr (3, [.int (nI kd), .ref q13, .int (nI 0), .int (nI 0)])), (q13, .inl (G.2.2.2, gr + 1, .inr (.inr (.inr (.inr (rfs ad i))))))]) X hw (c_X2_init l G q35 i ) gX6_init_X2_init (by decide +kernel) (by decide +kernel) (by decide +kernel) rfl rfl ⟨rfl, rfl⟩ (by decide +kernel) ⟨by dsimp only; omega, by dsimp only; omega⟩ rfl hl.1 rfl (Nat.le_of_ble_eq_true rfl) dX6_init_40 ⟨by dsimp only; omega, by dsimp only; omega⟩ [2] [0, 1] rfl rfl rfl rfl (by decide) (fun r w1 H locs hp hw => ?_)
        obtain ⟨rfl, rfl⟩ := hp
        have hw : WS G A s.heap H locs ((s0, .inr (3, [.int (nI kd), .ref q13, .int (nI 0), .int (nI 0)])) :: (q13, .inl (G.2.2.2, gr + 1, .inr (.inr (.inr (.inr (rfs ad i)))))) :: (q35, .inr (1, [.int (nI i), .int (nI 0), .int (nI 0), .int (nI 0), .long (lN 0)])) :: fsW ad fz i) := ws_subT (X := [(s0, .inr (3, [.int (nI kd), .ref q13, .int (nI 0), .int (nI 0)])), (q13, .inl (G.2.2.2, gr + 1, .inr (.inr (.inr (.inr (rfs ad i)))))), (q35, .inr (1, [.int (nI i), .int (nI 0), .int (nI 0), .int (nI 0), .long (lN 0)]))]) (cx := [(s0, .inr (3, [.int (nI kd), .ref q13, .int (nI 0), .int (nI 0)])), (q13, .inl (G.2.2.2, gr + 1, .inr (.inr (.inr (.inr (rfs ad i)))))), (q35, .inr (1, [.int (nI i), .int (nI 0), .int (nI 0), .int (nI 0), .long (lN 0)]))]) (pl := fsW ad fz i) hw [0, 1, 2] rfl rfl
        refine W.eq (g2 := F0 mt 43 ls [.ref q35, .int (nI i), .ref q13]) rfl ?_
        refine xqs X hw 1 2 rfl rfl (j := i) (rfl) (by omega) (by omega) dX6_init_43 (ws' := ((s0, .inr (3, [.int (nI kd), .ref q13, .int (nI 0), .int (nI 0)])) :: (q13, .inl (G.2.2.2, gr + 1, .inr (.inr (.inr (.inr (va_up (rfs ad i) i (some q35))))))) :: (q35, .inr (1, [.int (nI i), .int (nI 0), .int (nI 0), .int (nI 0), .long (lN 0)])) :: fsW ad fz i)) rfl (fun H locs hw => ?_)
        refine lv_iinc (v := nI (i + 1)) (lv' := [(3, .int (nI (i + 1))), (0, .ref s0)]) hx hb dX6_init_44 hl (k := 1) rfl (by exact nI_1 _) (by decide) rfl (fun ls hl => ?_)
        refine lv_goto (tgt := 21) hx hb dX6_init_47 (by decide) ?_
        have hw : WS G A s.heap H locs ((s0, .inr (3, [.int (nI kd), .ref q13, .int (nI 0), .int (nI 0)])) :: (q13, .inl (G.2.2.2, gr + 1, .inr (.inr (.inr (.inr (rfs (va_up ad i q35) (i + 1))))))) :: fsW (va_up ad i q35) fz (i + 1)) := by
          rw [← rfs_up, fsW_up]
          exact ws_swap (a := [(s0, .inr (3, [.int (nI kd), .ref q13, .int (nI 0), .int (nI 0)])), (q13, .inl (G.2.2.2, gr + 1, .inr (.inr (.inr (.inr (va_up (rfs ad i) i (some q35)))))))]) (b := [(q35, .inr (1, [.int (nI i), .int (nI 0), .int (nI 0), .int (nI 0), .long (lN 0)]))]) (c := fsW ad fz i) hw
        refine W.widen (k := 1 + (i + 1)) (n := (gr + 1) + 5 * (i + 1)) (by omega) (by omega) ?_
        exact ih21 (i + 1) (va_up ad i q35) _ _ _ (by omega) (by omega) hw (lv_sub hl [1, 0] rfl)
  have hw : WS G A s.heap H locs ((s0, .inr (3, [.int (nI kd), .ref q13, .int (nI 0), .int (nI 0)])) :: (q13, .inl (G.2.2.2, gr + 1, .inr (.inr (.inr (.inr (rfs (fun _ => 0) 0)))))) :: fsW (fun _ => 0) fz 0) := by rw [rfs_0]; exact hw
  refine W.widen (k := 1 + 0) (n := (gr + 1) + 5 * 0) (by omega) (by omega) ?_
  exact lp21 _ 0 (fun _ => 0) _ _ _ (Nat.lt_succ_self _) (by omega) hw (lv_sub hl [1, 0] rfl)
