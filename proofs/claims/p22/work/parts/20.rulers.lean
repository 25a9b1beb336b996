set_option maxHeartbeats 4000000 in
set_option maxRecDepth 100000 in
theorem c_X5_tryBehind_0 (l : Launch) (G : GG) (f : Nat) (as : Nat) (sz : Nat) (nb : Nat) (tr : Nat) (fi : Nat) (last : Nat) (back : Nat) (lens : Nat) (marks : Nat)  : CT l G yX5_tryBehind wsX5_tryBehind ({ frames := 0 + 4, cells := 0, slots := 0, locals := (0 + 1) * 60 + 100 } : Room) [.ref f, .int (nI last), .long (lN back), .long (lN lens), .long (lN marks), .int (nI 0)] [(f, .inr (1, [.int (nI as), .int (nI sz), .int (nI nb), .int (nI tr), .long (lN fi)]))] (fun r w => r = none ∧ w = [(f, .inr (1, [.int (nI as), .int (nI sz), .int (nI nb), .int (nI tr), .long (lN fi)]))]) 0 0 := by
  refine ct_v (cc := cX5_tryBehind) (maxL := 17) (by decide +kernel) rfl (Nat.le_of_ble_eq_true rfl) ?_
  intro p e s mt below meth c A Q X hw hret ls hl
  obtain ⟨hx, hb, -⟩ := id X
  have hl : lv_has ls 17 [(0, .ref f), (1, .int (nI last)), (2, .long (lN back)), (4, .long (lN lens)), (6, .long (lN marks)), (8, .int (nI 0))] := hl
  refine lv_iload hx hb dX5_tryBehind_0 (lv_at hl 5 rfl) ?_
  refine lv_iconst (v := 1) hx hb dX5_tryBehind_2 (by decide) ?_
  refine lv_icmp_ge (tgt := 7) hx hb dX5_tryBehind_3 (by decide) (fun c3 => ?_) (fun c3 => ?_)
  · exact absurd c3 (by decide)
  · skip
    refine hret _ _ _ _ _ dX5_tryBehind_6 hw ?_
    exact ⟨rfl, rfl⟩

theorem c_X5_tryBehind_all (l : Launch) (G : GG) : ∀ k : Nat, ∀ (f : Nat) (as : Nat) (sz : Nat) (nb : Nat) (tr : Nat) (fi : Nat) (last : Nat) (back : Nat) (lens : Nat) (marks : Nat) (ms : List Nat) (fl : List Nat) (hsz : sz ≤ 60) (hlast : last ≤ 60) (hback : back < 2 ^ (last + 1)) (hlens : lens < 2 ^ 61) (hmarks : marks < 2 ^ 61) (hk3 : k * (k - 1) / 2 ≤ sz), CT l G yX5_tryBehind wsX5_tryBehind ({ frames := k + 4, cells := 0, slots := 0, locals := (k + 1) * 60 + 100 } : Room) [.ref f, .int (nI last), .long (lN back), .long (lN lens), .long (lN marks), .int (nI k)] [(f, .inr (1, [.int (nI as), .int (nI sz), .int (nI nb), .int (nI tr), .long (lN fi)]))] (fun r w => r = none ∧ w = [(f, .inr (1, [.int (nI as), .int (nI sz), .int (nI ((rT sz (k) last back lens marks ms (nb, tr, fi, fl)).1)), .int (nI ((rT sz (k) last back lens marks ms (nb, tr, fi, fl)).2.1)), .long (lN ((rT sz (k) last back lens marks ms (nb, tr, fi, fl)).2.2.1))]))]) 0 0 := by
  intro k
  induction k with
  | zero =>
    intro f as sz nb tr fi last back lens marks ms fl hsz hlast hback hlens hmarks hk3
    exact c_X5_tryBehind_0 l G f as sz nb tr fi last back lens marks
  | succ k ih => exact fun f as sz nb tr fi last back lens marks ms fl hsz hlast hback hlens hmarks hk3 => c_X5_tryBehind_s l G k ih f as sz nb tr fi last back lens marks ms fl hsz hlast hback hlens hmarks hk3
theorem c_X5_tryBehind (l : Launch) (G : GG) (k : Nat) (f : Nat) (as : Nat) (sz : Nat) (nb : Nat) (tr : Nat) (fi : Nat) (last : Nat) (back : Nat) (lens : Nat) (marks : Nat) (ms : List Nat) (fl : List Nat) (hsz : sz ≤ 60) (hlast : last ≤ 60) (hback : back < 2 ^ (last + 1)) (hlens : lens < 2 ^ 61) (hmarks : marks < 2 ^ 61) (hk3 : k * (k - 1) / 2 ≤ sz) : CT l G yX5_tryBehind wsX5_tryBehind ({ frames := k + 4, cells := 0, slots := 0, locals := (k + 1) * 60 + 100 } : Room) [.ref f, .int (nI last), .long (lN back), .long (lN lens), .long (lN marks), .int (nI k)] [(f, .inr (1, [.int (nI as), .int (nI sz), .int (nI nb), .int (nI tr), .long (lN fi)]))] (fun r w => r = none ∧ w = [(f, .inr (1, [.int (nI as), .int (nI sz), .int (nI ((rT sz (k) last back lens marks ms (nb, tr, fi, fl)).1)), .int (nI ((rT sz (k) last back lens marks ms (nb, tr, fi, fl)).2.1)), .long (lN ((rT sz (k) last back lens marks ms (nb, tr, fi, fl)).2.2.1))]))]) 0 0 := c_X5_tryBehind_all l G k f as sz nb tr fi last back lens marks ms fl hsz hlast hback hlens hmarks hk3

set_option maxHeartbeats 4000000 in
set_option maxRecDepth 100000 in
theorem c_X5_run (l : Launch) (G : GG) (f : Nat) (n : Nat) (sz : Nat) (nb : Nat) (tr : Nat) (fi : Nat) (fl : List Nat) (hn1 : 2 ≤ n) (hn2 : n ≤ 7) : CT l G yX5_run wsX5_run ({ frames := 12, cells := 0, slots := 0, locals := 700 } : Room) [.ref f] [(f, .inr (1, [.int (nI n), .int (nI sz), .int (nI nb), .int (nI tr), .long (lN fi)]))] (fun r w => r = none ∧ w = [(f, .inr (1, [.int (nI n), .int (nI ((rR n (61 - n * (n - 1) / 2) (n * (n - 1) / 2) sz (nb, tr, fi, fl)).1)), .int (nI ((rR n (61 - n * (n - 1) / 2) (n * (n - 1) / 2) sz (nb, tr, fi, fl)).2.1)), .int (nI ((rR n (61 - n * (n - 1) / 2) (n * (n - 1) / 2) sz (nb, tr, fi, fl)).2.2.1)), .long (lN ((rR n (61 - n * (n - 1) / 2) (n * (n - 1) / 2) sz (nb, tr, fi, fl)).2.2.2.1))]))]) 0 0 := by
  refine ct_v (cc := cX5_run) (maxL := 3) (by decide +kernel) rfl (Nat.le_of_ble_eq_true rfl) ?_
  intro p e s mt below meth c A Q X hw hret ls hl
  obtain ⟨hx, hb, -⟩ := id X
  have hl : lv_has ls 3 [(0, .ref f)] := hl
  have hq : n * (n - 1) / 2 ≤ 21 := by have : n * (n - 1) ≤ 7 * 6 := Nat.mul_le_mul hn2 (by omega); omega
  have hq3 : (n - 1) * (n - 1 - 1) / 2 ≤ n * (n - 1) / 2 := by have : (n - 1) * (n - 1 - 1) ≤ n * (n - 1) := Nat.mul_le_mul (by omega) (by omega); omega
  refine lv_aload_n hx hb dX5_run_0 rfl (lv_at hl 0 rfl) ?_
  refine xgN (host := RX7) X hw (C := RX2) (T := TX2) (N := 5) (by decide +kernel) 0 rfl rfl 0 (by decide) rfl (by decide +kernel) rfl dX5_run_1 ?_
  refine lv_istore_n (lv' := [(1, .int (nI n)), (0, .ref f)]) hx hb dX5_run_4 rfl hl (by decide) rfl (fun ls hl => ?_)
  refine lv_iload_n hx hb dX5_run_5 rfl (lv_at hl 0 rfl) ?_
  refine lv_iload_n hx hb dX5_run_6 rfl (lv_at hl 0 rfl) ?_
  refine lv_iconst (v := 1) hx hb dX5_run_7 (by decide) ?_
  refine lv_isub hx hb dX5_run_8 ?_
  refine x_cvi (y := nI (n - 1)) (by exact pk_sub (b := 1) (by omega)) ?_
  refine lv_imul hx hb dX5_run_9 ?_
  refine x_cvi (y := nI (n * (n - 1))) (by exact pk_mul _ _) ?_
  refine lv_iconst (v := 2) hx hb dX5_run_10 (by decide) ?_
  refine lv_idiv hx hb dX5_run_11 (by decide) ?_
  refine x_cvi (y := nI (n * (n - 1) / 2)) (by exact pk_div (d := 2) (Nat.lt_of_le_of_lt (Nat.mul_le_mul hn2 (Nat.sub_le_sub_right hn2 1)) (by decide)) (by decide) (by decide)) ?_
  refine lv_istore_n (lv' := [(2, .int (nI (n * (n - 1) / 2))), (1, .int (nI n)), (0, .ref f)]) hx hb dX5_run_12 rfl hl (by decide) rfl (fun ls hl => ?_)
  have lp13 : ∀ (fu : Nat) (e1 : Nat) (sz1 : Nat) (nb1 : Nat) (tr1 : Nat) (fi1 : Nat) (fl1 : List Nat) (H : Heap) (locs : List Loc) (ls : Array Slot), 61 - e1 < fu → (n * (n - 1) / 2 ≤ e1) → (e1 ≤ 61) → (rR n (61 - e1) e1 sz1 (nb1, tr1, fi1, fl1) = rR n (61 - n * (n - 1) / 2) (n * (n - 1) / 2) sz (nb, tr, fi, fl)) → WS G A s.heap H locs [(f, .inr (1, [.int (nI n), .int (nI sz1), .int (nI nb1), .int (nI tr1), .long (lN fi1)]))] → lv_has ls 3 [(0, .ref f), (1, .int (nI n)), (2, .int (nI e1))] → W p l e ({ frames := 12, cells := 0, slots := 0, locals := 700 } : Room) s mt ([.ref f] : List Value).toArray below meth c H locs 0 0 Q (F0 mt 13 ls []) := by
    intro fu
    induction fu with
    | zero =>
      intro e1 sz1 nb1 tr1 fi1 fl1 H locs ls hmu
      exact absurd hmu (Nat.not_lt_zero _)
    | succ fu ih13 =>
      intro e1 sz1 nb1 tr1 fi1 fl1 H locs ls hmu13 he1 he2 hR hw hl
      refine lv_iload_n hx hb dX5_run_13 rfl (lv_at hl 2 rfl) ?_
      refine lv_bipush (v := 60) hx hb dX5_run_14 (by decide) ?_
      refine lv_icmp_gt (tgt := 48) hx hb dX5_run_16 (by decide) (fun c16 => ?_) (fun c16 => ?_)
      · have hk2 : 60 < e1 := i_lt (by decide) (by omega) c16
        refine hret _ _ _ _ _ dX5_run_48 hw ?_
        rw [← hR]
        first | (rw [show 61 - e1 = 0 by omega]; exact ⟨rfl, rfl⟩) | (rw [show 61 - e1 = (61 - (e1 + 1)) + 1 by omega, rR_s, if_neg c23]; exact ⟨rfl, rfl⟩)
      · have hk2 : e1 ≤ 60 := i_nlt (by decide) (by omega) c16
        refine lv_aload_n hx hb dX5_run_19 rfl (lv_at hl 0 rfl) ?_
        refine xgN (host := RX7) X hw (C := RX2) (T := TX2) (N := 5) (by decide +kernel) 0 rfl rfl 2 (by decide) rfl (by decide +kernel) rfl dX5_run_20 ?_
        refine lv_if_ne (tgt := 48) hx hb dX5_run_23 (by decide) (fun c23 => ?_) (fun c23 => ?_)
        · refine hret _ _ _ _ _ dX5_run_48 hw ?_
          rw [← hR]
          first | (rw [show 61 - e1 = 0 by omega]; exact ⟨rfl, rfl⟩) | (rw [show 61 - e1 = (61 - (e1 + 1)) + 1 by omega, rR_s, if_neg c23]; exact ⟨rfl, rfl⟩)
        · refine lv_aload_n hx hb dX5_run_26 rfl (lv_at hl 0 rfl) ?_
          refine lv_iload_n hx hb dX5_run_27 rfl (lv_at hl 2 rfl) ?_
          refine xpN (host := RX7) X hw (C := RX2) (ty := .int) (T := TX2) (N := 5) (by decide +kernel) tyX2 tyX2_ok nmX2 0 rfl rfl 1 (by decide) rfl (by decide +kernel) rfl (by decide +kernel) rfl rfl (Nat.le_of_ble_eq_true rfl) dX5_run_28 (ws' := [(f, .inr (1, [.int (nI n), .int (nI e1), .int (nI nb1), .int (nI tr1), .long (lN fi1)]))]) rfl (fun H locs hw => ?_)
          refine lv_aload_n hx hb dX5_run_31 rfl (lv_at hl 0 rfl) ?_
          refine lv_iconst (v := 0) hx hb dX5_run_32 (by decide) ?_
          refine x_cvi (y := nI 0) (by rfl) ?_
          refine lv_lconst (v := 1) hx hb dX5_run_33 (by decide) ?_
          refine x_cvl (y := lN 1) (by rfl) ?_
          refine lv_lconst (v := 0) hx hb dX5_run_34 (by decide) ?_
          refine x_cvl (y := lN 0) (by rfl) ?_
          refine lv_lconst (v := 1) hx hb dX5_run_35 (by decide) ?_
          refine x_cvl (y := lN 1) (by rfl) ?_
          refine lv_iload_n hx hb dX5_run_36 rfl (lv_at hl 1 rfl) ?_
          refine lv_iconst (v := 1) hx hb dX5_run_37 (by decide) ?_
          refine lv_isub hx hb dX5_run_38 ?_
          refine x_cvi (y := nI (n - 1)) (by exact pk_sub (b := 1) (by omega)) ?_
          refine xcS (n := 6) (As := [.ref f, .int (nI 0), .long (lN 1), .long (lN 0), .long (lN 1), .int (nI (n - 1))]) (rest := []) (wc := [(f, .inr (1, [.int (nI n), .int (nI e1), .int (nI nb1), .int (nI tr1), .long (lN fi1)]))]) (wr := []) X hw (c_X5_tryBehind l G (n - 1) f n e1 nb1 tr1 fi1 0 1 0 1 ([0]) fl1 hk2 (by decide) (by decide) (by decide) (by decide) (by omega)) gX5_run_X5_tryBehind rfl ⟨rfl, rfl⟩ (by decide +kernel) ⟨by dsimp only; omega, by dsimp only; omega⟩ rfl hl.1 rfl (Nat.le_of_ble_eq_true rfl) dX5_run_39 ⟨by dsimp only; omega, by dsimp only; omega⟩ [0] [] rfl rfl rfl rfl (by decide) (fun r w1 H locs hp hw => ?_)
          obtain ⟨rfl, rfl⟩ := hp
          generalize hacc : rT e1 (n - 1) 0 1 0 1 [0] (nb1, tr1, fi1, fl1) = acc at hw
          obtain ⟨nb2, tr2, fi2, fl2⟩ := acc
          have hw := hw.sub (ws' := [(f, .inr (1, [.int (nI n), .int (nI e1), .int (nI nb2), .int (nI tr2), .long (lN fi2)]))]) [0] rfl rfl
          refine W.eq (g2 := F0 mt 42 ls []) rfl ?_
          refine lv_iinc (v := nI (e1 + 1)) (lv' := [(2, .int (nI (e1 + 1))), (0, .ref f), (1, .int (nI n))]) hx hb dX5_run_42 hl (k := 2) rfl (by exact nI_1 _) (by decide) rfl (fun ls hl => ?_)
          refine lv_goto (tgt := 13) hx hb dX5_run_45 (by decide) ?_
          exact ih13 (e1 + 1) e1 nb2 tr2 fi2 fl2 _ _ _ (by omega) (by omega) (by omega) (by rw [show 61 - e1 = (61 - (e1 + 1)) + 1 by omega] at hR; rw [rR_s, if_pos c23, hacc] at hR; exact hR) hw (lv_sub hl [1, 2, 0] rfl)
  exact lp13 _ (n * (n - 1) / 2) sz nb tr fi fl _ _ _ (Nat.lt_succ_self _) (by omega) (by omega) (rfl) hw (lv_sub hl [2, 1, 0] rfl)
