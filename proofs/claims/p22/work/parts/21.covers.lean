set_option maxHeartbeats 4000000 in
set_option maxRecDepth 100000 in
theorem c_X0_lack (l : Launch) (G : GG) (f : Nat) (as : Nat) (sz : Nat) (nb : Nat) (tr : Nat) (fi : Nat) (u : Nat) (hu : u < 2 ^ 64) : CT l G yX0_lack wsX0_lack ({ frames := 1, cells := 0, slots := 0, locals := 21 } : Room) [.ref f, .long (lN u)] [(f, .inr (1, [.int (nI as), .int (nI sz), .int (nI nb), .int (nI tr), .long (lN fi)]))] (fun r w => r = some (.int (nI as - nI (pcN 64 u))) ∧ w = [(f, .inr (1, [.int (nI as), .int (nI sz), .int (nI nb), .int (nI tr), .long (lN fi)]))]) 0 0 := by
  refine ct_i (cc := cX0_lack) (maxL := 3) (by decide +kernel) rfl (Nat.le_of_ble_eq_true rfl) ?_
  intro p e s mt below meth c A Q X hw hret ls hl
  obtain ⟨hx, hb, -⟩ := id X
  have hl : lv_has ls 3 [(0, .ref f), (1, .long (lN u))] := hl
  refine lv_aload_n hx hb dX0_lack_0 rfl (lv_at hl 0 rfl) ?_
  refine xgN (host := RX7) X hw (C := RX2) (T := TX2) (N := 5) (by decide +kernel) 0 rfl rfl 0 (by decide) rfl (by decide +kernel) rfl dX0_lack_1 ?_
  refine lv_lload_n hx hb dX0_lack_4 rfl (lv_at hl 1 rfl) ?_
  refine xcP (n := 1) (As := [.long (lN u)]) (rest := [.int (nI as)]) X hw (c_J13_bitCount_95d88 l G u hu) gX0_lack_J13_bitCount_95d88 rfl ⟨rfl, rfl⟩ (by decide +kernel) ⟨by decide, by decide⟩ rfl hl.1 rfl (Nat.le_of_ble_eq_true rfl) dX0_lack_5 ⟨by decide, by decide⟩ (fun r w1 H locs hp hw => ?_)
  obtain rfl := hp
  refine W.eq (g2 := F0 mt 8 ls [.int (nI (pcN 64 u)), .int (nI as)]) rfl ?_
  refine lv_isub hx hb dX0_lack_8 ?_
  refine hret _ _ _ _ _ _ dX0_lack_9 hw ?_
  exact ⟨rfl, rfl⟩

set_option maxHeartbeats 4000000 in
set_option maxRecDepth 100000 in
theorem c_X0_tryBehind_s (l : Launch) (G : GG) (k : Nat) (ih : ∀ (f : Nat) (as : Nat) (sz : Nat) (nb : Nat) (tr : Nat) (fi : Nat) (last : Nat) (back : Nat) (lens : Nat) (marks : Nat) (ms : List Nat) (fl : List Nat) (has : as ≤ 60) (hsz : sz ≤ 60) (hlast : last ≤ 60) (hback : back < 2 ^ (last + 1)) (hlens : lens < 2 ^ 61) (hmarks : marks < 2 ^ 61) (hk3 : k ≤ sz), CT l G yX0_tryBehind wsX0_tryBehind ({ frames := k + 4, cells := 0, slots := 0, locals := (k + 1) * 60 + 100 } : Room) [.ref f, .int (nI last), .long (lN back), .long (lN lens), .long (lN marks), .int (nI k)] [(f, .inr (1, [.int (nI as), .int (nI sz), .int (nI nb), .int (nI tr), .long (lN fi)]))] (fun r w => r = none ∧ w = [(f, .inr (1, [.int (nI as), .int (nI sz), .int (nI ((cT as sz (k) last back lens marks ms (nb, tr, fi, fl)).1)), .int (nI ((cT as sz (k) last back lens marks ms (nb, tr, fi, fl)).2.1)), .long (lN ((cT as sz (k) last back lens marks ms (nb, tr, fi, fl)).2.2.1))]))]) 0 0) (f : Nat) (as : Nat) (sz : Nat) (nb : Nat) (tr : Nat) (fi : Nat) (last : Nat) (back : Nat) (lens : Nat) (marks : Nat) (ms : List Nat) (fl : List Nat) (has : as ≤ 60) (hsz : sz ≤ 60) (hlast : last ≤ 60) (hback : back < 2 ^ (last + 1)) (hlens : lens < 2 ^ 61) (hmarks : marks < 2 ^ 61) (hk3 : k + 1 ≤ sz) : CT l G yX0_tryBehind wsX0_tryBehind ({ frames := (k + 1) + 4, cells := 0, slots := 0, locals := ((k + 1) + 1) * 60 + 100 } : Room) [.ref f, .int (nI last), .long (lN back), .long (lN lens), .long (lN marks), .int (nI (k + 1))] [(f, .inr (1, [.int (nI as), .int (nI sz), .int (nI nb), .int (nI tr), .long (lN fi)]))] (fun r w => r = none ∧ w = [(f, .inr (1, [.int (nI as), .int (nI sz), .int (nI ((cT as sz (k + 1) last back lens marks ms (nb, tr, fi, fl)).1)), .int (nI ((cT as sz (k + 1) last back lens marks ms (nb, tr, fi, fl)).2.1)), .long (lN ((cT as sz (k + 1) last back lens marks ms (nb, tr, fi, fl)).2.2.1))]))]) 0 0 := by
  refine ct_v (cc := cX0_tryBehind) (maxL := 19) (by decide +kernel) rfl (Nat.le_of_ble_eq_true rfl) ?_
  intro p e s mt below meth c A Q X hw hret ls hl
  obtain ⟨hx, hb, -⟩ := id X
  have hl : lv_has ls 19 [(0, .ref f), (1, .int (nI last)), (2, .long (lN back)), (4, .long (lN lens)), (6, .long (lN marks)), (8, .int (nI (k + 1)))] := hl
  have hk5 : k ≤ 60 := by omega
  have hmo := mo_lt hk5 hsz
  refine lv_iload hx hb dX0_tryBehind_0 (lv_at hl 5 rfl) ?_
  refine lv_iconst (v := 1) hx hb dX0_tryBehind_2 (by decide) ?_
  refine lv_icmp_ge (tgt := 7) hx hb dX0_tryBehind_3 (by decide) (fun c3 => ?_) (fun c3 => ?_)
  · skip
    refine lv_iload hx hb dX0_tryBehind_7 (lv_at hl 5 rfl) ?_
    refine lv_iconst (v := 1) hx hb dX0_tryBehind_9 (by decide) ?_
    refine lv_isub hx hb dX0_tryBehind_10 ?_
    refine x_cvi (y := nI k) (by exact nI_pred k) ?_
    refine lv_istore (lv' := [(9, .int (nI k)), (0, .ref f), (1, .int (nI last)), (2, .long (lN back)), (4, .long (lN lens)), (6, .long (lN marks)), (8, .int (nI (k + 1)))]) hx hb dX0_tryBehind_11 hl (by decide) rfl (fun ls hl => ?_)
    refine lv_aload_n hx hb dX0_tryBehind_13 rfl (lv_at hl 1 rfl) ?_
    refine xgN (host := RX7) X hw (C := RX2) (T := TX2) (N := 5) (by decide +kernel) 0 rfl rfl 1 (by decide) rfl (by decide +kernel) rfl dX0_tryBehind_14 ?_
    refine lv_iload hx hb dX0_tryBehind_17 (lv_at hl 0 rfl) ?_
    refine lv_isub hx hb dX0_tryBehind_19 ?_
    refine x_cvi (y := nI (sz - k)) (by exact pk_sub (by omega)) ?_
    refine lv_istore (lv' := [(10, .int (nI (sz - k))), (9, .int (nI k)), (0, .ref f), (1, .int (nI last)), (2, .long (lN back)), (4, .long (lN lens)), (6, .long (lN marks)), (8, .int (nI (k + 1)))]) hx hb dX0_tryBehind_20 hl (by decide) rfl (fun ls hl => ?_)
    refine lv_iload hx hb dX0_tryBehind_22 (lv_at hl 1 rfl) ?_
    refine lv_iload hx hb dX0_tryBehind_24 (lv_at hl 0 rfl) ?_
    refine lv_imul hx hb dX0_tryBehind_26 ?_
    refine x_cvi (y := nI (k * (sz - k))) (by exact pk_mul _ _) ?_
    refine lv_iload hx hb dX0_tryBehind_27 (lv_at hl 1 rfl) ?_
    refine lv_iload hx hb dX0_tryBehind_29 (lv_at hl 1 rfl) ?_
    refine lv_iconst (v := 1) hx hb dX0_tryBehind_31 (by decide) ?_
    refine lv_isub hx hb dX0_tryBehind_32 ?_
    refine lv_imul hx hb dX0_tryBehind_33 ?_
    refine x_cvi (y := nI (k * (k - 1))) (by exact kk1 k) ?_
    refine lv_iconst (v := 2) hx hb dX0_tryBehind_34 (by decide) ?_
    refine lv_idiv hx hb dX0_tryBehind_35 (by decide) ?_
    refine x_cvi (y := nI (k * (k - 1) / 2)) (by exact pk_div (d := 2) hmo.2 (by decide) (by decide)) ?_
    refine lv_iadd hx hb dX0_tryBehind_36 ?_
    refine x_cvi (y := nI (k * (sz - k) + k * (k - 1) / 2)) (by exact nI_add _ _) ?_
    refine lv_istore (lv' := [(11, .int (nI (k * (sz - k) + k * (k - 1) / 2))), (10, .int (nI (sz - k))), (9, .int (nI k)), (0, .ref f), (1, .int (nI last)), (2, .long (lN back)), (4, .long (lN lens)), (6, .long (lN marks)), (8, .int (nI (k + 1)))]) hx hb dX0_tryBehind_37 hl (by decide) rfl (fun ls hl => ?_)
    refine lv_iload_n hx hb dX0_tryBehind_39 rfl (lv_at hl 4 rfl) ?_
    refine lv_iconst (v := 1) hx hb dX0_tryBehind_40 (by decide) ?_
    refine lv_iadd hx hb dX0_tryBehind_41 ?_
    refine x_cvi (y := nI (last + 1)) (by exact nI_1 _) ?_
    refine lv_istore (lv' := [(12, .int (nI (last + 1))), (11, .int (nI (k * (sz - k) + k * (k - 1) / 2))), (10, .int (nI (sz - k))), (9, .int (nI k)), (0, .ref f), (1, .int (nI last)), (2, .long (lN back)), (4, .long (lN lens)), (6, .long (lN marks)), (8, .int (nI (k + 1)))]) hx hb dX0_tryBehind_42 hl (by decide) rfl (fun ls hl => ?_)
    have lp44 : ∀ (fu : Nat) (mark : Nat) (nb1 : Nat) (tr1 : Nat) (fi1 : Nat) (fl1 : List Nat) (H : Heap) (locs : List Loc) (ls : Array Slot), 61 - mark < fu → (last + 1 ≤ mark) → (mark ≤ 61) → (rLoop (cB (cT as sz k) as sz k last back lens marks ms) (as - mark) mark (nb1, tr1, fi1, fl1) = cT as sz (k + 1) last back lens marks ms (nb, tr, fi, fl)) → WS G A s.heap H locs [(f, .inr (1, [.int (nI as), .int (nI sz), .int (nI nb1), .int (nI tr1), .long (lN fi1)]))] → lv_has ls 19 [(0, .ref f), (1, .int (nI last)), (2, .long (lN back)), (4, .long (lN lens)), (6, .long (lN marks)), (9, .int (nI k)), (11, .int (nI (k * (sz - k) + k * (k - 1) / 2))), (12, .int (nI mark))] → W p l e ({ frames := (k + 1) + 4, cells := 0, slots := 0, locals := ((k + 1) + 1) * 60 + 100 } : Room) s mt ([.ref f, .int (nI last), .long (lN back), .long (lN lens), .long (lN marks), .int (nI (k + 1))] : List Value).toArray below meth c H locs 0 0 Q (F0 mt 44 ls []) := by
      intro fu
      induction fu with
      | zero =>
        intro mark nb1 tr1 fi1 fl1 H locs ls hmu
        exact absurd hmu (Nat.not_lt_zero _)
      | succ fu ih44 =>
        intro mark nb1 tr1 fi1 fl1 H locs ls hmu44 hm1 hm2 hR hw hl
        refine lv_iload hx hb dX0_tryBehind_44 (lv_at hl 7 rfl) ?_
        refine lv_aload_n hx hb dX0_tryBehind_46 rfl (lv_at hl 0 rfl) ?_
        refine xgN (host := RX7) X hw (C := RX2) (T := TX2) (N := 5) (by decide +kernel) 0 rfl rfl 0 (by decide) rfl (by decide +kernel) rfl dX0_tryBehind_47 ?_
        refine lv_icmp_ge (tgt := 149) hx hb dX0_tryBehind_50 (by decide) (fun c50 => ?_) (fun c50 => ?_)
        · have hlt : as ≤ mark := i_le (by omega) (by omega) c50
          refine hret _ _ _ _ _ dX0_tryBehind_149 hw ?_
          rw [show as - mark = 0 by omega] at hR
          unfold rLoop at hR
          rw [← hR]
          exact ⟨rfl, rfl⟩
        · have hlt : mark < as := i_nle (by omega) (by omega) c50
          have hsp : back * 2 ^ (mark - last) < 2 ^ 61 := sp_lt hback hm1 (by omega)
          have hth := th_lt (mark := mark) hlens hsp has
          refine lv_aload_n hx hb dX0_tryBehind_53 rfl (lv_at hl 0 rfl) ?_
          refine lv_dup hx hb dX0_tryBehind_54 rfl ?_
          refine xgN (host := RX7) X hw (C := RX2) (T := TX2) (N := 5) (by decide +kernel) 0 rfl rfl 3 (by decide) rfl (by decide +kernel) rfl dX0_tryBehind_55 ?_
          refine lv_iconst (v := 1) hx hb dX0_tryBehind_58 (by decide) ?_
          refine lv_iadd hx hb dX0_tryBehind_59 ?_
          refine x_cvi (y := nI (tr1 + 1)) (by exact nI_1 _) ?_
          refine xpN (host := RX7) X hw (C := RX2) (ty := .int) (T := TX2) (N := 5) (by decide +kernel) tyX2 tyX2_ok nmX2 0 rfl rfl 3 (by decide) rfl (by decide +kernel) rfl (by decide +kernel) rfl rfl (Nat.le_of_ble_eq_true rfl) dX0_tryBehind_60 (ws' := [(f, .inr (1, [.int (nI as), .int (nI sz), .int (nI nb1), .int (nI (tr1 + 1)), .long (lN fi1)]))]) rfl (fun H locs hw => ?_)
          refine lv_lload_n hx hb dX0_tryBehind_63 rfl (lv_at hl 2 rfl) ?_
          refine lv_iload hx hb dX0_tryBehind_64 (lv_at hl 7 rfl) ?_
          refine lv_iload_n hx hb dX0_tryBehind_66 rfl (lv_at hl 1 rfl) ?_
          refine lv_isub hx hb dX0_tryBehind_67 ?_
          refine x_cvi (y := nI (mark - last)) (by exact pk_sub (by omega)) ?_
          refine lv_lshl (v := lN (back * 2 ^ (mark - last))) hx hb dX0_tryBehind_68 (by exact wb_shl _ (by omega)) ?_
          refine lv_lstore (lv' := [(13, .long (lN (back * 2 ^ (mark - last)))), (0, .ref f), (1, .int (nI last)), (2, .long (lN back)), (4, .long (lN lens)), (6, .long (lN marks)), (9, .int (nI k)), (11, .int (nI (k * (sz - k) + k * (k - 1) / 2))), (12, .int (nI mark))]) hx hb dX0_tryBehind_69 hl (by decide) rfl (fun ls hl => ?_)
          refine lv_lload hx hb dX0_tryBehind_71 (lv_at hl 4 rfl) ?_
          refine lv_lload hx hb dX0_tryBehind_73 (lv_at hl 0 rfl) ?_
          refine lv_lor hx hb dX0_tryBehind_75 ?_
          refine x_cvl (y := lN (lens ||| back * 2 ^ (mark - last))) (by exact fb_orL _ _) ?_
          refine lv_aload_n hx hb dX0_tryBehind_76 rfl (lv_at hl 1 rfl) ?_
          refine xgN (host := RX7) X hw (C := RX2) (T := TX2) (N := 5) (by decide +kernel) 0 rfl rfl 0 (by decide) rfl (by decide +kernel) rfl dX0_tryBehind_77 ?_
          refine lv_iload hx hb dX0_tryBehind_80 (lv_at hl 8 rfl) ?_
          refine lv_isub hx hb dX0_tryBehind_82 ?_
          refine x_cvi (y := nI (as - mark)) (by exact pk_sub (by omega)) ?_
          refine xcP (n := 1) (As := [.int (nI (as - mark))]) (rest := [.long (lN (lens ||| back * 2 ^ (mark - last)))]) X hw (c_X3_bit l G (nI (as - mark)) ) gX0_tryBehind_X3_bit rfl ⟨rfl, rfl⟩ (by decide +kernel) ⟨by dsimp only; omega, by dsimp only; omega⟩ rfl hl.1 rfl (Nat.le_of_ble_eq_true rfl) dX0_tryBehind_83 ⟨by dsimp only; omega, by dsimp only; omega⟩ (fun r w1 H locs hp hw => ?_)
          obtain rfl := hp
          refine W.eq (g2 := F0 mt 86 ls [.long (lN (bitO (nI (as - mark)))), .long (lN (lens ||| back * 2 ^ (mark - last)))]) rfl ?_
          refine x_cvl (y := lN (2 ^ (as - mark))) (by rw [bitO_nI (by omega)]) ?_
          refine lv_lor hx hb dX0_tryBehind_86 ?_
          refine x_cvl (y := lN (lens ||| back * 2 ^ (mark - last) ||| 2 ^ (as - mark))) (by exact fb_orL _ _) ?_
          refine lv_lstore (lv' := [(15, .long (lN (lens ||| back * 2 ^ (mark - last) ||| 2 ^ (as - mark)))), (13, .long (lN (back * 2 ^ (mark - last)))), (0, .ref f), (1, .int (nI last)), (2, .long (lN back)), (4, .long (lN lens)), (6, .long (lN marks)), (9, .int (nI k)), (11, .int (nI (k * (sz - k) + k * (k - 1) / 2))), (12, .int (nI mark))]) hx hb dX0_tryBehind_87 hl (by decide) rfl (fun ls hl => ?_)
          refine lv_aload_n hx hb dX0_tryBehind_89 rfl (lv_at hl 2 rfl) ?_
          refine lv_lload hx hb dX0_tryBehind_90 (lv_at hl 0 rfl) ?_
          refine xcS (n := 2) (As := [.ref f, .long (lN (lens ||| back * 2 ^ (mark - last) ||| 2 ^ (as - mark)))]) (rest := []) (wc := [(f, .inr (1, [.int (nI as), .int (nI sz), .int (nI nb1), .int (nI (tr1 + 1)), .long (lN fi1)]))]) (wr := []) X hw (c_X0_lack l G f as sz nb1 (tr1 + 1) fi1 (lens ||| back * 2 ^ (mark - last) ||| 2 ^ (as - mark)) (Nat.lt_trans hth (by decide))) gX0_tryBehind_X0_lack rfl ⟨rfl, rfl⟩ (by decide +kernel) ⟨by dsimp only; omega, by dsimp only; omega⟩ rfl hl.1 rfl (Nat.le_of_ble_eq_true rfl) dX0_tryBehind_92 ⟨by dsimp only; omega, by dsimp only; omega⟩ [0] [] rfl rfl rfl rfl (by decide) (fun r w1 H locs hp hw => ?_)
          obtain ⟨rfl, rfl⟩ := hp
          have hw := hw.sub (ws' := [(f, .inr (1, [.int (nI as), .int (nI sz), .int (nI nb1), .int (nI (tr1 + 1)), .long (lN fi1)]))]) [0] rfl rfl
          refine W.eq (g2 := F0 mt 95 ls [.int (nI as - nI (pcN 64 (lens ||| back * 2 ^ (mark - last) ||| 2 ^ (as - mark))))]) rfl ?_
          refine lv_iload hx hb dX0_tryBehind_95 (lv_at hl 8 rfl) ?_
          refine lv_icmp_le (tgt := 103) hx hb dX0_tryBehind_97 (by decide) (fun c97 => ?_) (fun c97 => ?_)
          · have hz : as - pcQ (lens ||| back * 2 ^ (mark - last) ||| 2 ^ (as - mark)) ≤ k * (sz - k) + k * (k - 1) / 2 := by rw [← pcQ_eq (Nat.lt_trans hth (by decide))]; exact (lack_le (by omega) (Nat.lt_of_le_of_lt (pcN_le _ _) (by decide)) hmo.1).mp c97
            refine lv_lload hx hb dX0_tryBehind_103 (lv_at hl 6 rfl) ?_
            refine lv_iload hx hb dX0_tryBehind_105 (lv_at hl 9 rfl) ?_
            refine xcP (n := 1) (As := [.int (nI mark)]) (rest := [.long (lN marks)]) X hw (c_X3_bit l G (nI mark) ) gX0_tryBehind_X3_bit rfl ⟨rfl, rfl⟩ (by decide +kernel) ⟨by dsimp only; omega, by dsimp only; omega⟩ rfl hl.1 rfl (Nat.le_of_ble_eq_true rfl) dX0_tryBehind_107 ⟨by dsimp only; omega, by dsimp only; omega⟩ (fun r w1 H locs hp hw => ?_)
            obtain rfl := hp
            refine W.eq (g2 := F0 mt 110 ls [.long (lN (bitO (nI mark))), .long (lN marks)]) rfl ?_
            refine x_cvl (y := lN (2 ^ mark)) (by rw [bitO_nI (by omega)]) ?_
            refine lv_lor hx hb dX0_tryBehind_110 ?_
            refine x_cvl (y := lN (marks ||| 2 ^ mark)) (by exact fb_orL _ _) ?_
            refine lv_lstore (lv' := [(17, .long (lN (marks ||| 2 ^ mark))), (15, .long (lN (lens ||| back * 2 ^ (mark - last) ||| 2 ^ (as - mark)))), (13, .long (lN (back * 2 ^ (mark - last)))), (0, .ref f), (1, .int (nI last)), (2, .long (lN back)), (4, .long (lN lens)), (6, .long (lN marks)), (9, .int (nI k)), (11, .int (nI (k * (sz - k) + k * (k - 1) / 2))), (12, .int (nI mark))]) hx hb dX0_tryBehind_111 hl (by decide) rfl (fun ls hl => ?_)
            refine lv_iload hx hb dX0_tryBehind_113 (lv_at hl 8 rfl) ?_
            refine lv_if_ne (tgt := 127) hx hb dX0_tryBehind_115 (by decide) (fun c115 => ?_) (fun c115 => ?_)
            · have hk0 : k ≠ 0 := fun q => c115 (by rw [q]; rfl)
              refine lv_aload_n hx hb dX0_tryBehind_127 rfl (lv_at hl 3 rfl) ?_
              refine lv_iload hx hb dX0_tryBehind_128 (lv_at hl 10 rfl) ?_
              refine lv_lload hx hb dX0_tryBehind_130 (lv_at hl 2 rfl) ?_
              refine lv_lconst (v := 1) hx hb dX0_tryBehind_132 (by decide) ?_
              refine lv_lor hx hb dX0_tryBehind_133 ?_
              refine x_cvl (y := lN (back * 2 ^ (mark - last) ||| 1)) (by exact fb_orL _ _) ?_
              refine lv_lload hx hb dX0_tryBehind_134 (lv_at hl 1 rfl) ?_
              refine lv_lload hx hb dX0_tryBehind_136 (lv_at hl 0 rfl) ?_
              refine lv_iload hx hb dX0_tryBehind_138 (lv_at hl 8 rfl) ?_
              refine xcS (n := 6) (As := [.ref f, .int (nI mark), .long (lN (back * 2 ^ (mark - last) ||| 1)), .long (lN (lens ||| back * 2 ^ (mark - last) ||| 2 ^ (as - mark))), .long (lN (marks ||| 2 ^ mark)), .int (nI k)]) (rest := []) (wc := [(f, .inr (1, [.int (nI as), .int (nI sz), .int (nI nb1), .int (nI (tr1 + 1)), .long (lN fi1)]))]) (wr := []) X hw (ih f as sz nb1 (tr1 + 1) fi1 mark (back * 2 ^ (mark - last) ||| 1) (lens ||| back * 2 ^ (mark - last) ||| 2 ^ (as - mark)) (marks ||| 2 ^ mark) (mark :: ms) fl1 has hsz (by omega) (or1_lt (sp_lt2 hback hm1)) hth (Nat.or_lt_two_pow hmarks (Nat.pow_lt_pow_right (by decide) (by omega))) (by omega)) gX0_tryBehind_X0_tryBehind rfl ⟨rfl, rfl⟩ (by decide +kernel) ⟨by dsimp only; omega, by dsimp only; omega⟩ rfl hl.1 rfl (Nat.le_of_ble_eq_true rfl) dX0_tryBehind_140 ⟨by dsimp only; omega, by dsimp only; omega⟩ [0] [] rfl rfl rfl rfl (by decide) (fun r w1 H locs hp hw => ?_)
              obtain ⟨rfl, rfl⟩ := hp
              generalize hacc : cT as sz k mark (back * 2 ^ (mark - last) ||| 1) (lens ||| back * 2 ^ (mark - last) ||| 2 ^ (as - mark)) (marks ||| 2 ^ mark) (mark :: ms) (nb1, tr1 + 1, fi1, fl1) = acc at hw
              obtain ⟨nb2, tr2, fi2, fl2⟩ := acc
              have hw := hw.sub (ws' := [(f, .inr (1, [.int (nI as), .int (nI sz), .int (nI nb2), .int (nI tr2), .long (lN fi2)]))]) [0] rfl rfl
              refine W.eq (g2 := F0 mt 143 ls []) rfl ?_
              refine lv_iinc (v := nI (mark + 1)) (lv' := [(12, .int (nI (mark + 1))), (17, .long (lN (marks ||| 2 ^ mark))), (15, .long (lN (lens ||| back * 2 ^ (mark - last) ||| 2 ^ (as - mark)))), (13, .long (lN (back * 2 ^ (mark - last)))), (0, .ref f), (1, .int (nI last)), (2, .long (lN back)), (4, .long (lN lens)), (6, .long (lN marks)), (9, .int (nI k)), (11, .int (nI (k * (sz - k) + k * (k - 1) / 2)))]) hx hb dX0_tryBehind_143 hl (k := 10) rfl (by exact nI_1 _) (by decide) rfl (fun ls hl => ?_)
              refine lv_goto (tgt := 44) hx hb dX0_tryBehind_146 (by decide) ?_
              exact ih44 (mark + 1) nb2 tr2 fi2 fl2 _ _ _ (by omega) (by omega) (by omega) (by rw [show as - mark = (as - (mark + 1)) + 1 by omega] at hR; unfold rLoop at hR; rw [← hR]; congr 1; unfold cB; rw [if_pos hz, if_neg hk0]; exact hacc.symm) hw (lv_sub hl [4, 5, 6, 7, 8, 9, 10, 0] rfl)
            · have hk0 : k = 0 := i_eq (b := 0) (by omega) (by decide) c115
              refine lv_aload_n hx hb dX0_tryBehind_118 rfl (lv_at hl 3 rfl) ?_
              refine lv_lload hx hb dX0_tryBehind_119 (lv_at hl 0 rfl) ?_
              refine xcV (n := 1) (As := [.long (lN (marks ||| 2 ^ mark))]) (rest := []) (wc := [(f, .inr (1, [.int (nI as), .int (nI sz), .int (nI nb1), .int (nI (tr1 + 1)), .long (lN fi1)]))]) (wr := []) X hw (c_X2_add l G f as sz nb1 (tr1 + 1) fi1 (marks ||| 2 ^ mark) ) (C := RX2) gX0_tryBehind_X2_add (q0 := 0) rfl rfl rfl ⟨rfl, rfl⟩ (by decide +kernel) ⟨by dsimp only; omega, by dsimp only; omega⟩ rfl hl.1 rfl (Nat.le_of_ble_eq_true rfl) dX0_tryBehind_121 ⟨by dsimp only; omega, by dsimp only; omega⟩ [0] [] rfl rfl rfl rfl (by decide) (fun r w1 H locs hp hw => ?_)
              obtain ⟨rfl, rfl⟩ := hp
              have hw := hw.sub (ws' := [(f, .inr (1, [.int (nI as), .int (nI sz), .int (nI (nb1 + 1)), .int (nI (tr1 + 1)), .long (lN (if nI nb1 = 0 then (marks ||| 2 ^ mark) else fi1))]))]) [0] rfl rfl
              refine W.eq (g2 := F0 mt 124 ls []) rfl ?_
              refine lv_goto (tgt := 143) hx hb dX0_tryBehind_124 (by decide) ?_
              refine lv_iinc (v := nI (mark + 1)) (lv' := [(12, .int (nI (mark + 1))), (17, .long (lN (marks ||| 2 ^ mark))), (15, .long (lN (lens ||| back * 2 ^ (mark - last) ||| 2 ^ (as - mark)))), (13, .long (lN (back * 2 ^ (mark - last)))), (0, .ref f), (1, .int (nI last)), (2, .long (lN back)), (4, .long (lN lens)), (6, .long (lN marks)), (9, .int (nI k)), (11, .int (nI (k * (sz - k) + k * (k - 1) / 2)))]) hx hb dX0_tryBehind_143 hl (k := 10) rfl (by exact nI_1 _) (by decide) rfl (fun ls hl => ?_)
              refine lv_goto (tgt := 44) hx hb dX0_tryBehind_146 (by decide) ?_
              exact ih44 (mark + 1) (nb1 + 1) (tr1 + 1) (if nI nb1 = 0 then marks ||| 2 ^ mark else fi1) (if nI nb1 = 0 then mark :: ms else fl1) _ _ _ (by omega) (by omega) (by omega) (by rw [show as - mark = (as - (mark + 1)) + 1 by omega] at hR; unfold rLoop at hR; rw [← hR]; congr 1; unfold cB; rw [if_pos hz, if_pos hk0]; rfl) hw (lv_sub hl [4, 5, 6, 7, 8, 9, 10, 0] rfl)
          · have hz : ¬ as - pcQ (lens ||| back * 2 ^ (mark - last) ||| 2 ^ (as - mark)) ≤ k * (sz - k) + k * (k - 1) / 2 := fun q => c97 ((lack_le (by omega) (Nat.lt_of_le_of_lt (pcN_le _ _) (by decide)) hmo.1).mpr (by rw [pcQ_eq (Nat.lt_trans hth (by decide))]; exact q))
            refine lv_goto (tgt := 143) hx hb dX0_tryBehind_100 (by decide) ?_
            refine lv_iinc (v := nI (mark + 1)) (lv' := [(12, .int (nI (mark + 1))), (15, .long (lN (lens ||| back * 2 ^ (mark - last) ||| 2 ^ (as - mark)))), (13, .long (lN (back * 2 ^ (mark - last)))), (0, .ref f), (1, .int (nI last)), (2, .long (lN back)), (4, .long (lN lens)), (6, .long (lN marks)), (9, .int (nI k)), (11, .int (nI (k * (sz - k) + k * (k - 1) / 2)))]) hx hb dX0_tryBehind_143 hl (k := 9) rfl (by exact nI_1 _) (by decide) rfl (fun ls hl => ?_)
            refine lv_goto (tgt := 44) hx hb dX0_tryBehind_146 (by decide) ?_
            exact ih44 (mark + 1) nb1 (tr1 + 1) fi1 fl1 _ _ _ (by omega) (by omega) (by omega) (by rw [show as - mark = (as - (mark + 1)) + 1 by omega] at hR; unfold rLoop at hR; rw [← hR]; congr 1; unfold cB; rw [if_neg hz]; rfl) hw (lv_sub hl [3, 4, 5, 6, 7, 8, 9, 0] rfl)
    exact lp44 _ (last + 1) nb tr fi fl _ _ _ (Nat.lt_succ_self _) (by omega) (by omega) (rfl) hw (lv_sub hl [4, 5, 6, 7, 8, 3, 1, 0] rfl)
  · exact absurd (nI_leI (a := 1) (b := k + 1) (by decide) (by omega) |>.mpr (by omega)) c3

set_option maxHeartbeats 4000000 in
set_option maxRecDepth 100000 in
theorem c_X0_tryBehind_0 (l : Launch) (G : GG) (f : Nat) (as : Nat) (sz : Nat) (nb : Nat) (tr : Nat) (fi : Nat) (last : Nat) (back : Nat) (lens : Nat) (marks : Nat)  : CT l G yX0_tryBehind wsX0_tryBehind ({ frames := 0 + 4, cells := 0, slots := 0, locals := (0 + 1) * 60 + 100 } : Room) [.ref f, .int (nI last), .long (lN back), .long (lN lens), .long (lN marks), .int (nI 0)] [(f, .inr (1, [.int (nI as), .int (nI sz), .int (nI nb), .int (nI tr), .long (lN fi)]))] (fun r w => r = none ∧ w = [(f, .inr (1, [.int (nI as), .int (nI sz), .int (nI nb), .int (nI tr), .long (lN fi)]))]) 0 0 := by
  refine ct_v (cc := cX0_tryBehind) (maxL := 19) (by decide +kernel) rfl (Nat.le_of_ble_eq_true rfl) ?_
  intro p e s mt below meth c A Q X hw hret ls hl
  obtain ⟨hx, hb, -⟩ := id X
  have hl : lv_has ls 19 [(0, .ref f), (1, .int (nI last)), (2, .long (lN back)), (4, .long (lN lens)), (6, .long (lN marks)), (8, .int (nI 0))] := hl
  refine lv_iload hx hb dX0_tryBehind_0 (lv_at hl 5 rfl) ?_
  refine lv_iconst (v := 1) hx hb dX0_tryBehind_2 (by decide) ?_
  refine lv_icmp_ge (tgt := 7) hx hb dX0_tryBehind_3 (by decide) (fun c3 => ?_) (fun c3 => ?_)
  · exact absurd c3 (by decide)
  · skip
    refine hret _ _ _ _ _ dX0_tryBehind_6 hw ?_
    exact ⟨rfl, rfl⟩

theorem c_X0_tryBehind_all (l : Launch) (G : GG) : ∀ k : Nat, ∀ (f : Nat) (as : Nat) (sz : Nat) (nb : Nat) (tr : Nat) (fi : Nat) (last : Nat) (back : Nat) (lens : Nat) (marks : Nat) (ms : List Nat) (fl : List Nat) (has : as ≤ 60) (hsz : sz ≤ 60) (hlast : last ≤ 60) (hback : back < 2 ^ (last + 1)) (hlens : lens < 2 ^ 61) (hmarks : marks < 2 ^ 61) (hk3 : k ≤ sz), CT l G yX0_tryBehind wsX0_tryBehind ({ frames := k + 4, cells := 0, slots := 0, locals := (k + 1) * 60 + 100 } : Room) [.ref f, .int (nI last), .long (lN back), .long (lN lens), .long (lN marks), .int (nI k)] [(f, .inr (1, [.int (nI as), .int (nI sz), .int (nI nb), .int (nI tr), .long (lN fi)]))] (fun r w => r = none ∧ w = [(f, .inr (1, [.int (nI as), .int (nI sz), .int (nI ((cT as sz (k) last back lens marks ms (nb, tr, fi, fl)).1)), .int (nI ((cT as sz (k) last back lens marks ms (nb, tr, fi, fl)).2.1)), .long (lN ((cT as sz (k) last back lens marks ms (nb, tr, fi, fl)).2.2.1))]))]) 0 0 := by
  intro k
  induction k with
  | zero =>
    intro f as sz nb tr fi last back lens marks ms fl has hsz hlast hback hlens hmarks hk3
    exact c_X0_tryBehind_0 l G f as sz nb tr fi last back lens marks
  | succ k ih => exact fun f as sz nb tr fi last back lens marks ms fl has hsz hlast hback hlens hmarks hk3 => c_X0_tryBehind_s l G k ih f as sz nb tr fi last back lens marks ms fl has hsz hlast hback hlens hmarks hk3
theorem c_X0_tryBehind (l : Launch) (G : GG) (k : Nat) (f : Nat) (as : Nat) (sz : Nat) (nb : Nat) (tr : Nat) (fi : Nat) (last : Nat) (back : Nat) (lens : Nat) (marks : Nat) (ms : List Nat) (fl : List Nat) (has : as ≤ 60) (hsz : sz ≤ 60) (hlast : last ≤ 60) (hback : back < 2 ^ (last + 1)) (hlens : lens < 2 ^ 61) (hmarks : marks < 2 ^ 61) (hk3 : k ≤ sz) : CT l G yX0_tryBehind wsX0_tryBehind ({ frames := k + 4, cells := 0, slots := 0, locals := (k + 1) * 60 + 100 } : Room) [.ref f, .int (nI last), .long (lN back), .long (lN lens), .long (lN marks), .int (nI k)] [(f, .inr (1, [.int (nI as), .int (nI sz), .int (nI nb), .int (nI tr), .long (lN fi)]))] (fun r w => r = none ∧ w = [(f, .inr (1, [.int (nI as), .int (nI sz), .int (nI ((cT as sz (k) last back lens marks ms (nb, tr, fi, fl)).1)), .int (nI ((cT as sz (k) last back lens marks ms (nb, tr, fi, fl)).2.1)), .long (lN ((cT as sz (k) last back lens marks ms (nb, tr, fi, fl)).2.2.1))]))]) 0 0 := c_X0_tryBehind_all l G k f as sz nb tr fi last back lens marks ms fl has hsz hlast hback hlens hmarks hk3

set_option maxHeartbeats 4000000 in
set_option maxRecDepth 100000 in
theorem c_X0_run (l : Launch) (G : GG) (f : Nat) (as : Nat) (sz : Nat) (nb : Nat) (tr : Nat) (fi : Nat) (fl : List Nat) (hn1 : 1 ≤ as) (hn2 : as ≤ 20) : CT l G yX0_run wsX0_run ({ frames := 18, cells := 0, slots := 0, locals := 1100 } : Room) [.ref f] [(f, .inr (1, [.int (nI as), .int (nI sz), .int (nI nb), .int (nI tr), .long (lN fi)]))] (fun r w => r = none ∧ w = [(f, .inr (1, [.int (nI as), .int (nI ((cR as 11 2 sz (nb, tr, fi, fl)).1)), .int (nI ((cR as 11 2 sz (nb, tr, fi, fl)).2.1)), .int (nI ((cR as 11 2 sz (nb, tr, fi, fl)).2.2.1)), .long (lN ((cR as 11 2 sz (nb, tr, fi, fl)).2.2.2.1))]))]) 0 0 := by
  refine ct_v (cc := cX0_run) (maxL := 7) (by decide +kernel) rfl (Nat.le_of_ble_eq_true rfl) ?_
  intro p e s mt below meth c A Q X hw hret ls hl
  obtain ⟨hx, hb, -⟩ := id X
  have hl : lv_has ls 7 [(0, .ref f)] := hl
  refine lv_aload_n hx hb dX0_run_0 rfl (lv_at hl 0 rfl) ?_
  refine xgN (host := RX7) X hw (C := RX2) (T := TX2) (N := 5) (by decide +kernel) 0 rfl rfl 0 (by decide) rfl (by decide +kernel) rfl dX0_run_1 ?_
  refine lv_istore_n (lv' := [(1, .int (nI as)), (0, .ref f)]) hx hb dX0_run_4 rfl hl (by decide) rfl (fun ls hl => ?_)
  refine lv_iconst (v := 2) hx hb dX0_run_5 (by decide) ?_
  refine x_cvi (y := nI 2) (by rfl) ?_
  refine lv_istore_n (lv' := [(2, .int (nI 2)), (1, .int (nI as)), (0, .ref f)]) hx hb dX0_run_6 rfl hl (by decide) rfl (fun ls hl => ?_)
  have lp7 : ∀ (fu : Nat) (mm : Nat) (sz1 : Nat) (nb1 : Nat) (tr1 : Nat) (fi1 : Nat) (fl1 : List Nat) (H : Heap) (locs : List Loc) (ls : Array Slot), 13 - mm < fu → (2 ≤ mm) → (mm ≤ 13) → (cR as (13 - mm) mm sz1 (nb1, tr1, fi1, fl1) = cR as 11 2 sz (nb, tr, fi, fl)) → WS G A s.heap H locs [(f, .inr (1, [.int (nI as), .int (nI sz1), .int (nI nb1), .int (nI tr1), .long (lN fi1)]))] → lv_has ls 7 [(0, .ref f), (1, .int (nI as)), (2, .int (nI mm))] → W p l e ({ frames := 18, cells := 0, slots := 0, locals := 1100 } : Room) s mt ([.ref f] : List Value).toArray below meth c H locs 0 0 Q (F0 mt 7 ls []) := by
    intro fu
    induction fu with
    | zero =>
      intro mm sz1 nb1 tr1 fi1 fl1 H locs ls hmu
      exact absurd hmu (Nat.not_lt_zero _)
    | succ fu ih7 =>
      intro mm sz1 nb1 tr1 fi1 fl1 H locs ls hmu7 hm1 hm2 hR hw hl
      have hmm : mm * (mm - 1) ≤ 13 * 12 := Nat.mul_le_mul hm2 (by omega)
      refine lv_iload_n hx hb dX0_run_7 rfl (lv_at hl 2 rfl) ?_
      refine lv_bipush (v := 12) hx hb dX0_run_8 (by decide) ?_
      refine lv_icmp_gt (tgt := 92) hx hb dX0_run_10 (by decide) (fun c10 => ?_) (fun c10 => ?_)
      · have hk2 : 12 < mm := i_lt (by decide) (by omega) c10
        refine hret _ _ _ _ _ dX0_run_92 hw ?_
        rw [← hR]
        first | (rw [show 13 - mm = 0 by omega]; exact ⟨rfl, rfl⟩) | (rw [show 13 - mm = (13 - (mm + 1)) + 1 by omega, cR_s, if_neg c17]; exact ⟨rfl, rfl⟩)
      · have hk2 : mm ≤ 12 := i_nlt (by decide) (by omega) c10
        refine lv_aload_n hx hb dX0_run_13 rfl (lv_at hl 0 rfl) ?_
        refine xgN (host := RX7) X hw (C := RX2) (T := TX2) (N := 5) (by decide +kernel) 0 rfl rfl 2 (by decide) rfl (by decide +kernel) rfl dX0_run_14 ?_
        refine lv_if_ne (tgt := 92) hx hb dX0_run_17 (by decide) (fun c17 => ?_) (fun c17 => ?_)
        · refine hret _ _ _ _ _ dX0_run_92 hw ?_
          rw [← hR]
          first | (rw [show 13 - mm = 0 by omega]; exact ⟨rfl, rfl⟩) | (rw [show 13 - mm = (13 - (mm + 1)) + 1 by omega, cR_s, if_neg c17]; exact ⟨rfl, rfl⟩)
        · refine lv_iload_n hx hb dX0_run_20 rfl (lv_at hl 2 rfl) ?_
          refine lv_iload_n hx hb dX0_run_21 rfl (lv_at hl 2 rfl) ?_
          refine lv_iconst (v := 1) hx hb dX0_run_22 (by decide) ?_
          refine lv_isub hx hb dX0_run_23 ?_
          refine x_cvi (y := nI (mm - 1)) (by exact pk_sub (b := 1) (by omega)) ?_
          refine lv_imul hx hb dX0_run_24 ?_
          refine x_cvi (y := nI (mm * (mm - 1))) (by exact pk_mul _ _) ?_
          refine lv_iconst (v := 2) hx hb dX0_run_25 (by decide) ?_
          refine lv_idiv hx hb dX0_run_26 (by decide) ?_
          refine x_cvi (y := nI (mm * (mm - 1) / 2)) (by exact pk_div (d := 2) (by omega) (by decide) (by decide)) ?_
          refine lv_iload_n hx hb dX0_run_27 rfl (lv_at hl 1 rfl) ?_
          refine lv_icmp_ge (tgt := 34) hx hb dX0_run_28 (by decide) (fun c28 => ?_) (fun c28 => ?_)
          · have hge : as ≤ mm * (mm - 1) / 2 := i_le (by omega) (by omega) c28
            refine lv_aload_n hx hb dX0_run_34 rfl (lv_at hl 0 rfl) ?_
            refine lv_iload_n hx hb dX0_run_35 rfl (lv_at hl 2 rfl) ?_
            refine xpN (host := RX7) X hw (C := RX2) (ty := .int) (T := TX2) (N := 5) (by decide +kernel) tyX2 tyX2_ok nmX2 0 rfl rfl 1 (by decide) rfl (by decide +kernel) rfl (by decide +kernel) rfl rfl (Nat.le_of_ble_eq_true rfl) dX0_run_36 (ws' := [(f, .inr (1, [.int (nI as), .int (nI mm), .int (nI nb1), .int (nI tr1), .long (lN fi1)]))]) rfl (fun H locs hw => ?_)
            refine lv_lconst (v := 1) hx hb dX0_run_39 (by decide) ?_
            refine x_cvl (y := lN 1) (by rfl) ?_
            refine lv_iload_n hx hb dX0_run_40 rfl (lv_at hl 1 rfl) ?_
            refine xcP (n := 1) (As := [.int (nI as)]) (rest := [.long (lN 1)]) X hw (c_X3_bit l G (nI as) ) gX0_run_X3_bit rfl ⟨rfl, rfl⟩ (by decide +kernel) ⟨by dsimp only; omega, by dsimp only; omega⟩ rfl hl.1 rfl (Nat.le_of_ble_eq_true rfl) dX0_run_41 ⟨by dsimp only; omega, by dsimp only; omega⟩ (fun r w1 H locs hp hw => ?_)
            obtain rfl := hp
            refine W.eq (g2 := F0 mt 44 ls [.long (lN (bitO (nI as))), .long (lN 1)]) rfl ?_
            refine x_cvl (y := lN (2 ^ as)) (by rw [bitO_nI (by omega)]) ?_
            refine lv_lor hx hb dX0_run_44 ?_
            refine x_cvl (y := lN (1 ||| 2 ^ as)) (by exact fb_orL _ _) ?_
            refine lv_lstore_n (lv' := [(3, .long (lN (1 ||| 2 ^ as))), (0, .ref f), (1, .int (nI as)), (2, .int (nI mm))]) hx hb dX0_run_45 rfl hl (by decide) rfl (fun ls hl => ?_)
            refine lv_iload_n hx hb dX0_run_46 rfl (lv_at hl 2 rfl) ?_
            refine xcP (n := 1) (As := [.int (nI as)]) (rest := []) X hw (c_X3_bit l G (nI as) ) gX0_run_X3_bit rfl ⟨rfl, rfl⟩ (by decide +kernel) ⟨by dsimp only; omega, by dsimp only; omega⟩ rfl hl.1 rfl (Nat.le_of_ble_eq_true rfl) dX0_run_47 ⟨by dsimp only; omega, by dsimp only; omega⟩ (fun r w1 H locs hp hw => ?_)
            obtain rfl := hp
            refine W.eq (g2 := F0 mt 50 ls [.long (lN (bitO (nI as)))]) rfl ?_
            refine x_cvl (y := lN (2 ^ as)) (by rw [bitO_nI (by omega)]) ?_
            refine lv_lstore (lv' := [(5, .long (lN (2 ^ as))), (3, .long (lN (1 ||| 2 ^ as))), (0, .ref f), (1, .int (nI as)), (2, .int (nI mm))]) hx hb dX0_run_50 hl (by decide) rfl (fun ls hl => ?_)
            refine lv_iload_n hx hb dX0_run_52 rfl (lv_at hl 4 rfl) ?_
            refine lv_iconst (v := 2) hx hb dX0_run_53 (by decide) ?_
            refine lv_icmp_le (tgt := 72) hx hb dX0_run_54 (by decide) (fun c54 => ?_) (fun c54 => ?_)
            · have hgt : mm ≤ 2 := i_le (b := 2) (by omega) (by decide) c54
              refine lv_aload_n hx hb dX0_run_72 rfl (lv_at hl 2 rfl) ?_
              refine lv_lload hx hb dX0_run_73 (lv_at hl 0 rfl) ?_
              refine xcS (n := 2) (As := [.ref f, .long (lN (2 ^ as))]) (rest := []) (wc := [(f, .inr (1, [.int (nI as), .int (nI mm), .int (nI nb1), .int (nI tr1), .long (lN fi1)]))]) (wr := []) X hw (c_X0_lack l G f as mm nb1 tr1 fi1 (2 ^ as) (Nat.pow_lt_pow_right (by decide) (by omega))) gX0_run_X0_lack rfl ⟨rfl, rfl⟩ (by decide +kernel) ⟨by dsimp only; omega, by dsimp only; omega⟩ rfl hl.1 rfl (Nat.le_of_ble_eq_true rfl) dX0_run_75 ⟨by dsimp only; omega, by dsimp only; omega⟩ [0] [] rfl rfl rfl rfl (by decide) (fun r w1 H locs hp hw => ?_)
              obtain ⟨rfl, rfl⟩ := hp
              have hw := hw.sub (ws' := [(f, .inr (1, [.int (nI as), .int (nI mm), .int (nI nb1), .int (nI tr1), .long (lN fi1)]))]) [0] rfl rfl
              refine W.eq (g2 := F0 mt 78 ls [.int (nI as - nI (pcN 64 (2 ^ as)))]) rfl ?_
              refine lv_if_ne (tgt := 86) hx hb dX0_run_78 (by decide) (fun c78 => ?_) (fun c78 => ?_)
              · refine lv_iinc (v := nI (mm + 1)) (lv' := [(2, .int (nI (mm + 1))), (5, .long (lN (2 ^ as))), (3, .long (lN (1 ||| 2 ^ as))), (0, .ref f), (1, .int (nI as))]) hx hb dX0_run_86 hl (k := 4) rfl (by exact nI_1 _) (by decide) rfl (fun ls hl => ?_)
                refine lv_goto (tgt := 7) hx hb dX0_run_89 (by decide) ?_
                exact ih7 (mm + 1) mm nb1 tr1 fi1 fl1 _ _ _ (by omega) (by omega) (by omega) (by rw [show 13 - mm = (13 - (mm + 1)) + 1 by omega, cR_s, if_pos c17] at hR; rw [if_neg (show ¬ mm * (mm - 1) / 2 < as by omega)] at hR; unfold cOne at hR; rw [if_neg (show ¬ 2 < mm by omega), if_neg (by rw [← pcQ_eq (Nat.pow_lt_pow_right (by decide) (by omega)), pcQ_pow as (by omega)]; intro q; refine c78 ((lack_0 (by omega) (by rw [pcQ_pow as (by omega)]; decide)).mpr ?_); rw [pcQ_pow as (by omega)]; omega)] at hR; exact hR) hw (lv_sub hl [3, 4, 0] rfl)
              · refine lv_aload_n hx hb dX0_run_81 rfl (lv_at hl 2 rfl) ?_
                refine lv_lload_n hx hb dX0_run_82 rfl (lv_at hl 1 rfl) ?_
                refine xcV (n := 1) (As := [.long (lN (1 ||| 2 ^ as))]) (rest := []) (wc := [(f, .inr (1, [.int (nI as), .int (nI mm), .int (nI nb1), .int (nI tr1), .long (lN fi1)]))]) (wr := []) X hw (c_X2_add l G f as mm nb1 tr1 fi1 (1 ||| 2 ^ as) ) (C := RX2) gX0_run_X2_add (q0 := 0) rfl rfl rfl ⟨rfl, rfl⟩ (by decide +kernel) ⟨by dsimp only; omega, by dsimp only; omega⟩ rfl hl.1 rfl (Nat.le_of_ble_eq_true rfl) dX0_run_83 ⟨by dsimp only; omega, by dsimp only; omega⟩ [0] [] rfl rfl rfl rfl (by decide) (fun r w1 H locs hp hw => ?_)
                obtain ⟨rfl, rfl⟩ := hp
                have hw := hw.sub (ws' := [(f, .inr (1, [.int (nI as), .int (nI mm), .int (nI (nb1 + 1)), .int (nI tr1), .long (lN (if nI nb1 = 0 then (1 ||| 2 ^ as) else fi1))]))]) [0] rfl rfl
                refine W.eq (g2 := F0 mt 86 ls []) rfl ?_
                refine lv_iinc (v := nI (mm + 1)) (lv' := [(2, .int (nI (mm + 1))), (5, .long (lN (2 ^ as))), (3, .long (lN (1 ||| 2 ^ as))), (0, .ref f), (1, .int (nI as))]) hx hb dX0_run_86 hl (k := 4) rfl (by exact nI_1 _) (by decide) rfl (fun ls hl => ?_)
                refine lv_goto (tgt := 7) hx hb dX0_run_89 (by decide) ?_
                exact ih7 (mm + 1) mm (nb1 + 1) tr1 (if nI nb1 = 0 then 1 ||| 2 ^ as else fi1) (if nI nb1 = 0 then [0] else fl1) _ _ _ (by omega) (by omega) (by omega) (by rw [show 13 - mm = (13 - (mm + 1)) + 1 by omega, cR_s, if_pos c17] at hR; rw [if_neg (show ¬ mm * (mm - 1) / 2 < as by omega)] at hR; unfold cOne at hR; rw [if_neg (show ¬ 2 < mm by omega), if_pos (by rw [← pcQ_eq (Nat.pow_lt_pow_right (by decide) (by omega)), pcQ_pow as (by omega)]; have := (lack_0 (by omega) (by rw [pcQ_pow as (by omega)]; decide)).mp c78; rw [pcQ_pow as (by omega)] at this; omega)] at hR; exact hR) hw (lv_sub hl [3, 4, 0] rfl)
            · have hgt : 2 < mm := i_nle (b := 2) (by omega) (by decide) c54
              refine lv_aload_n hx hb dX0_run_57 rfl (lv_at hl 2 rfl) ?_
              refine lv_iconst (v := 0) hx hb dX0_run_58 (by decide) ?_
              refine x_cvi (y := nI 0) (by rfl) ?_
              refine lv_lconst (v := 1) hx hb dX0_run_59 (by decide) ?_
              refine x_cvl (y := lN 1) (by rfl) ?_
              refine lv_lload hx hb dX0_run_60 (lv_at hl 0 rfl) ?_
              refine lv_lload_n hx hb dX0_run_62 rfl (lv_at hl 1 rfl) ?_
              refine lv_iload_n hx hb dX0_run_63 rfl (lv_at hl 4 rfl) ?_
              refine lv_iconst (v := 2) hx hb dX0_run_64 (by decide) ?_
              refine lv_isub hx hb dX0_run_65 ?_
              refine x_cvi (y := nI (mm - 2)) (by exact pk_sub (b := 2) (by omega)) ?_
              refine xcS (n := 6) (As := [.ref f, .int (nI 0), .long (lN 1), .long (lN (2 ^ as)), .long (lN (1 ||| 2 ^ as)), .int (nI (mm - 2))]) (rest := []) (wc := [(f, .inr (1, [.int (nI as), .int (nI mm), .int (nI nb1), .int (nI tr1), .long (lN fi1)]))]) (wr := []) X hw (c_X0_tryBehind l G (mm - 2) f as mm nb1 tr1 fi1 0 1 (2 ^ as) (1 ||| 2 ^ as) ([0]) fl1 (by omega) (by omega) (by decide) (by decide) (Nat.pow_lt_pow_right (by decide) (by omega)) (Nat.or_lt_two_pow (by decide) (Nat.pow_lt_pow_right (by decide) (by omega))) (by omega)) gX0_run_X0_tryBehind rfl ⟨rfl, rfl⟩ (by decide +kernel) ⟨by dsimp only; omega, by dsimp only; omega⟩ rfl hl.1 rfl (Nat.le_of_ble_eq_true rfl) dX0_run_66 ⟨by dsimp only; omega, by dsimp only; omega⟩ [0] [] rfl rfl rfl rfl (by decide) (fun r w1 H locs hp hw => ?_)
              obtain ⟨rfl, rfl⟩ := hp
              generalize hacc : cT as mm (mm - 2) 0 1 (2 ^ as) (1 ||| 2 ^ as) [0] (nb1, tr1, fi1, fl1) = acc at hw
              obtain ⟨nb2, tr2, fi2, fl2⟩ := acc
              have hw := hw.sub (ws' := [(f, .inr (1, [.int (nI as), .int (nI mm), .int (nI nb2), .int (nI tr2), .long (lN fi2)]))]) [0] rfl rfl
              refine W.eq (g2 := F0 mt 69 ls []) rfl ?_
              refine lv_goto (tgt := 86) hx hb dX0_run_69 (by decide) ?_
              refine lv_iinc (v := nI (mm + 1)) (lv' := [(2, .int (nI (mm + 1))), (5, .long (lN (2 ^ as))), (3, .long (lN (1 ||| 2 ^ as))), (0, .ref f), (1, .int (nI as))]) hx hb dX0_run_86 hl (k := 4) rfl (by exact nI_1 _) (by decide) rfl (fun ls hl => ?_)
              refine lv_goto (tgt := 7) hx hb dX0_run_89 (by decide) ?_
              exact ih7 (mm + 1) mm nb2 tr2 fi2 fl2 _ _ _ (by omega) (by omega) (by omega) (by rw [show 13 - mm = (13 - (mm + 1)) + 1 by omega, cR_s, if_pos c17] at hR; rw [if_neg (show ¬ mm * (mm - 1) / 2 < as by omega)] at hR; unfold cOne at hR; rw [if_pos (show 2 < mm from hgt), hacc] at hR; exact hR) hw (lv_sub hl [3, 4, 0] rfl)
          · have hge : mm * (mm - 1) / 2 < as := i_nle (by omega) (by omega) c28
            refine lv_goto (tgt := 86) hx hb dX0_run_31 (by decide) ?_
            refine lv_iinc (v := nI (mm + 1)) (lv' := [(2, .int (nI (mm + 1))), (0, .ref f), (1, .int (nI as))]) hx hb dX0_run_86 hl (k := 2) rfl (by exact nI_1 _) (by decide) rfl (fun ls hl => ?_)
            refine lv_goto (tgt := 7) hx hb dX0_run_89 (by decide) ?_
            exact ih7 (mm + 1) sz1 nb1 tr1 fi1 fl1 _ _ _ (by omega) (by omega) (by omega) (by rw [show 13 - mm = (13 - (mm + 1)) + 1 by omega, cR_s, if_pos c17] at hR; rw [if_pos (show mm * (mm - 1) / 2 < as by omega)] at hR; exact hR) hw (lv_sub hl [1, 2, 0] rfl)
  exact lp7 _ 2 sz nb tr fi fl _ _ _ (Nat.lt_succ_self _) (by decide) (by decide) (rfl) hw (lv_sub hl [2, 1, 0] rfl)
