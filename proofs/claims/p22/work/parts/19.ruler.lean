set_option maxHeartbeats 4000000 in
set_option maxRecDepth 100000 in
theorem c_X5_tryBehind_s (l : Launch) (G : GG) (k : Nat) (ih : ∀ (f : Nat) (as : Nat) (sz : Nat) (nb : Nat) (tr : Nat) (fi : Nat) (last : Nat) (back : Nat) (lens : Nat) (marks : Nat) (ms : List Nat) (fl : List Nat) (hsz : sz ≤ 60) (hlast : last ≤ 60) (hback : back < 2 ^ (last + 1)) (hlens : lens < 2 ^ 61) (hmarks : marks < 2 ^ 61) (hk3 : k * (k - 1) / 2 ≤ sz), CT l G yX5_tryBehind wsX5_tryBehind ({ frames := k + 4, cells := 0, slots := 0, locals := (k + 1) * 60 + 100 } : Room) [.ref f, .int (nI last), .long (lN back), .long (lN lens), .long (lN marks), .int (nI k)] [(f, .inr (1, [.int (nI as), .int (nI sz), .int (nI nb), .int (nI tr), .long (lN fi)]))] (fun r w => r = none ∧ w = [(f, .inr (1, [.int (nI as), .int (nI sz), .int (nI ((rT sz (k) last back lens marks ms (nb, tr, fi, fl)).1)), .int (nI ((rT sz (k) last back lens marks ms (nb, tr, fi, fl)).2.1)), .long (lN ((rT sz (k) last back lens marks ms (nb, tr, fi, fl)).2.2.1))]))]) 0 0) (f : Nat) (as : Nat) (sz : Nat) (nb : Nat) (tr : Nat) (fi : Nat) (last : Nat) (back : Nat) (lens : Nat) (marks : Nat) (ms : List Nat) (fl : List Nat) (hsz : sz ≤ 60) (hlast : last ≤ 60) (hback : back < 2 ^ (last + 1)) (hlens : lens < 2 ^ 61) (hmarks : marks < 2 ^ 61) (hk3 : (k + 1) * (k + 1 - 1) / 2 ≤ sz) : CT l G yX5_tryBehind wsX5_tryBehind ({ frames := (k + 1) + 4, cells := 0, slots := 0, locals := ((k + 1) + 1) * 60 + 100 } : Room) [.ref f, .int (nI last), .long (lN back), .long (lN lens), .long (lN marks), .int (nI (k + 1))] [(f, .inr (1, [.int (nI as), .int (nI sz), .int (nI nb), .int (nI tr), .long (lN fi)]))] (fun r w => r = none ∧ w = [(f, .inr (1, [.int (nI as), .int (nI sz), .int (nI ((rT sz (k + 1) last back lens marks ms (nb, tr, fi, fl)).1)), .int (nI ((rT sz (k + 1) last back lens marks ms (nb, tr, fi, fl)).2.1)), .long (lN ((rT sz (k + 1) last back lens marks ms (nb, tr, fi, fl)).2.2.1))]))]) 0 0 := by
  refine ct_v (cc := cX5_tryBehind) (maxL := 17) (by decide +kernel) rfl (Nat.le_of_ble_eq_true rfl) ?_
  intro p e s mt below meth c A Q X hw hret ls hl
  obtain ⟨hx, hb, -⟩ := id X
  have hl : lv_has ls 17 [(0, .ref f), (1, .int (nI last)), (2, .long (lN back)), (4, .long (lN lens)), (6, .long (lN marks)), (8, .int (nI (k + 1)))] := hl
  have hk4 : k * (k + 1) / 2 ≤ sz := k4_of hk3
  have hk5 : k ≤ 60 := k5_of hk4 hsz
  refine lv_iload hx hb dX5_tryBehind_0 (lv_at hl 5 rfl) ?_
  refine lv_iconst (v := 1) hx hb dX5_tryBehind_2 (by decide) ?_
  refine lv_icmp_ge (tgt := 7) hx hb dX5_tryBehind_3 (by decide) (fun c3 => ?_) (fun c3 => ?_)
  · skip
    refine lv_iload hx hb dX5_tryBehind_7 (lv_at hl 5 rfl) ?_
    refine lv_iconst (v := 1) hx hb dX5_tryBehind_9 (by decide) ?_
    refine lv_isub hx hb dX5_tryBehind_10 ?_
    refine x_cvi (y := nI k) (by exact nI_pred k) ?_
    refine lv_istore (lv' := [(9, .int (nI k)), (0, .ref f), (1, .int (nI last)), (2, .long (lN back)), (4, .long (lN lens)), (6, .long (lN marks)), (8, .int (nI (k + 1)))]) hx hb dX5_tryBehind_11 hl (by decide) rfl (fun ls hl => ?_)
    have jn34 : ∀ (fr0 : Nat) (H : Heap) (locs : List Loc) (ls : Array Slot) (hfr : fr0 = rFrom sz k last), WS G A s.heap H locs [(f, .inr (1, [.int (nI as), .int (nI sz), .int (nI nb), .int (nI tr), .long (lN fi)]))] → lv_has ls 17 [(9, .int (nI k)), (0, .ref f), (1, .int (nI last)), (2, .long (lN back)), (4, .long (lN lens)), (6, .long (lN marks)), (8, .int (nI (k + 1)))] → W p l e ({ frames := (k + 1) + 4, cells := 0, slots := 0, locals := ((k + 1) + 1) * 60 + 100 } : Room) s mt ([.ref f, .int (nI last), .long (lN back), .long (lN lens), .long (lN marks), .int (nI (k + 1))] : List Value).toArray below meth c H locs 0 0 Q (F0 mt 34 ls [.int (nI fr0)]) := by
      intro fr0 H locs ls hfr hw hl
      refine lv_istore (lv' := [(10, .int (nI fr0)), (9, .int (nI k)), (0, .ref f), (1, .int (nI last)), (2, .long (lN back)), (4, .long (lN lens)), (6, .long (lN marks)), (8, .int (nI (k + 1)))]) hx hb dX5_tryBehind_34 hl (by decide) rfl (fun ls hl => ?_)
      refine lv_aload_n hx hb dX5_tryBehind_36 rfl (lv_at hl 2 rfl) ?_
      refine xgN (host := RX7) X hw (C := RX2) (T := TX2) (N := 5) (by decide +kernel) 0 rfl rfl 1 (by decide) rfl (by decide +kernel) rfl dX5_tryBehind_37 ?_
      refine lv_iload hx hb dX5_tryBehind_40 (lv_at hl 1 rfl) ?_
      refine lv_iload hx hb dX5_tryBehind_42 (lv_at hl 1 rfl) ?_
      refine lv_iconst (v := 1) hx hb dX5_tryBehind_44 (by decide) ?_
      refine lv_iadd hx hb dX5_tryBehind_45 ?_
      refine x_cvi (y := nI (k + 1)) (by exact nI_1 _) ?_
      refine lv_imul hx hb dX5_tryBehind_46 ?_
      refine x_cvi (y := nI (k * (k + 1))) (by exact pk_mul _ _) ?_
      refine lv_iconst (v := 2) hx hb dX5_tryBehind_47 (by decide) ?_
      refine lv_idiv hx hb dX5_tryBehind_48 (by decide) ?_
      refine x_cvi (y := nI (k * (k + 1) / 2)) (by exact pk_div (d := 2) (kk2_lt hk5) (by decide) (by decide)) ?_
      refine lv_isub hx hb dX5_tryBehind_49 ?_
      refine x_cvi (y := nI (rTo sz k)) (by exact pk_sub hk4) ?_
      refine lv_istore (lv' := [(11, .int (nI (rTo sz k))), (10, .int (nI fr0)), (9, .int (nI k)), (0, .ref f), (1, .int (nI last)), (2, .long (lN back)), (4, .long (lN lens)), (6, .long (lN marks)), (8, .int (nI (k + 1)))]) hx hb dX5_tryBehind_50 hl (by decide) rfl (fun ls hl => ?_)
      refine lv_iload hx hb dX5_tryBehind_52 (lv_at hl 1 rfl) ?_
      refine lv_istore (lv' := [(12, .int (nI fr0)), (11, .int (nI (rTo sz k))), (10, .int (nI fr0)), (9, .int (nI k)), (0, .ref f), (1, .int (nI last)), (2, .long (lN back)), (4, .long (lN lens)), (6, .long (lN marks)), (8, .int (nI (k + 1)))]) hx hb dX5_tryBehind_54 hl (by decide) rfl (fun ls hl => ?_)
      have lp56 : ∀ (fu : Nat) (mark : Nat) (nb1 : Nat) (tr1 : Nat) (fi1 : Nat) (fl1 : List Nat) (H : Heap) (locs : List Loc) (ls : Array Slot), 61 - mark < fu → (last + 1 ≤ mark) → (mark ≤ 61) → (rLoop (rB (rT sz k) k last back lens marks ms) (rTo sz k + 1 - mark) mark (nb1, tr1, fi1, fl1) = rT sz (k + 1) last back lens marks ms (nb, tr, fi, fl)) → WS G A s.heap H locs [(f, .inr (1, [.int (nI as), .int (nI sz), .int (nI nb1), .int (nI tr1), .long (lN fi1)]))] → lv_has ls 17 [(0, .ref f), (1, .int (nI last)), (2, .long (lN back)), (4, .long (lN lens)), (6, .long (lN marks)), (9, .int (nI k)), (11, .int (nI (rTo sz k))), (12, .int (nI mark))] → W p l e ({ frames := (k + 1) + 4, cells := 0, slots := 0, locals := ((k + 1) + 1) * 60 + 100 } : Room) s mt ([.ref f, .int (nI last), .long (lN back), .long (lN lens), .long (lN marks), .int (nI (k + 1))] : List Value).toArray below meth c H locs 0 0 Q (F0 mt 56 ls []) := by
        intro fu
        induction fu with
        | zero =>
          intro mark nb1 tr1 fi1 fl1 H locs ls hmu
          exact absurd hmu (Nat.not_lt_zero _)
        | succ fu ih56 =>
          intro mark nb1 tr1 fi1 fl1 H locs ls hmu56 hm1 hm2 hR hw hl
          refine lv_iload hx hb dX5_tryBehind_56 (lv_at hl 7 rfl) ?_
          refine lv_iload hx hb dX5_tryBehind_58 (lv_at hl 6 rfl) ?_
          refine lv_icmp_gt (tgt := 143) hx hb dX5_tryBehind_60 (by decide) (fun c60 => ?_) (fun c60 => ?_)
          · have hlt : rTo sz k < mark := i_lt (by unfold rTo; omega) (by omega) c60
            refine hret _ _ _ _ _ dX5_tryBehind_143 hw ?_
            rw [show rTo sz k + 1 - mark = 0 by omega] at hR
            unfold rLoop at hR
            rw [← hR]
            exact ⟨rfl, rfl⟩
          · have hlt : mark ≤ rTo sz k := i_nlt (by unfold rTo; omega) (by omega) c60
            have hmz : mark ≤ sz := Nat.le_trans hlt (Nat.sub_le _ _)
            have hsp : back * 2 ^ (mark - last) < 2 ^ 61 := sp_lt hback hm1 (by omega)
            refine lv_aload_n hx hb dX5_tryBehind_63 rfl (lv_at hl 0 rfl) ?_
            refine lv_dup hx hb dX5_tryBehind_64 rfl ?_
            refine xgN (host := RX7) X hw (C := RX2) (T := TX2) (N := 5) (by decide +kernel) 0 rfl rfl 3 (by decide) rfl (by decide +kernel) rfl dX5_tryBehind_65 ?_
            refine lv_iconst (v := 1) hx hb dX5_tryBehind_68 (by decide) ?_
            refine lv_iadd hx hb dX5_tryBehind_69 ?_
            refine x_cvi (y := nI (tr1 + 1)) (by exact nI_1 _) ?_
            refine xpN (host := RX7) X hw (C := RX2) (ty := .int) (T := TX2) (N := 5) (by decide +kernel) tyX2 tyX2_ok nmX2 0 rfl rfl 3 (by decide) rfl (by decide +kernel) rfl (by decide +kernel) rfl rfl (Nat.le_of_ble_eq_true rfl) dX5_tryBehind_70 (ws' := [(f, .inr (1, [.int (nI as), .int (nI sz), .int (nI nb1), .int (nI (tr1 + 1)), .long (lN fi1)]))]) rfl (fun H locs hw => ?_)
            refine lv_lload_n hx hb dX5_tryBehind_73 rfl (lv_at hl 2 rfl) ?_
            refine lv_iload hx hb dX5_tryBehind_74 (lv_at hl 7 rfl) ?_
            refine lv_iload_n hx hb dX5_tryBehind_76 rfl (lv_at hl 1 rfl) ?_
            refine lv_isub hx hb dX5_tryBehind_77 ?_
            refine x_cvi (y := nI (mark - last)) (by exact pk_sub (by omega)) ?_
            refine lv_lshl (v := lN (back * 2 ^ (mark - last))) hx hb dX5_tryBehind_78 (by exact wb_shl _ (by omega)) ?_
            refine lv_lstore (lv' := [(13, .long (lN (back * 2 ^ (mark - last)))), (0, .ref f), (1, .int (nI last)), (2, .long (lN back)), (4, .long (lN lens)), (6, .long (lN marks)), (9, .int (nI k)), (11, .int (nI (rTo sz k))), (12, .int (nI mark))]) hx hb dX5_tryBehind_79 hl (by decide) rfl (fun ls hl => ?_)
            refine lv_lload hx hb dX5_tryBehind_81 (lv_at hl 0 rfl) ?_
            refine lv_lload hx hb dX5_tryBehind_83 (lv_at hl 4 rfl) ?_
            refine lv_land hx hb dX5_tryBehind_85 ?_
            refine x_cvl (y := lN (back * 2 ^ (mark - last) &&& lens)) (by exact fb_andL _ _) ?_
            refine lv_lconst (v := 0) hx hb dX5_tryBehind_86 (by decide) ?_
            refine W.lcmp hx hb dX5_tryBehind_87 ?_
            refine lv_if_eq (tgt := 94) hx hb dX5_tryBehind_88 (by decide) (fun c88 => ?_) (fun c88 => ?_)
            · have hz : back * 2 ^ (mark - last) &&& lens = 0 := lN_inj64 (Nat.lt_of_le_of_lt Nat.and_le_right (Nat.lt_trans hlens (by decide))) (by decide) (lg0.mp c88)
              refine lv_lload hx hb dX5_tryBehind_94 (lv_at hl 5 rfl) ?_
              refine lv_iload hx hb dX5_tryBehind_96 (lv_at hl 8 rfl) ?_
              refine xcP (n := 1) (As := [.int (nI mark)]) (rest := [.long (lN marks)]) X hw (c_X3_bit l G (nI mark) ) gX5_tryBehind_X3_bit rfl ⟨rfl, rfl⟩ (by decide +kernel) ⟨by dsimp only; omega, by dsimp only; omega⟩ rfl hl.1 rfl (Nat.le_of_ble_eq_true rfl) dX5_tryBehind_98 ⟨by dsimp only; omega, by dsimp only; omega⟩ (fun r w1 H locs hp hw => ?_)
              obtain rfl := hp
              refine W.eq (g2 := F0 mt 101 ls [.long (lN (bitO (nI mark))), .long (lN marks)]) rfl ?_
              refine x_cvl (y := lN (2 ^ mark)) (by rw [bitO_nI (by omega)]) ?_
              refine lv_lor hx hb dX5_tryBehind_101 ?_
              refine x_cvl (y := lN (marks ||| 2 ^ mark)) (by exact fb_orL _ _) ?_
              refine lv_lstore (lv' := [(15, .long (lN (marks ||| 2 ^ mark))), (13, .long (lN (back * 2 ^ (mark - last)))), (0, .ref f), (1, .int (nI last)), (2, .long (lN back)), (4, .long (lN lens)), (6, .long (lN marks)), (9, .int (nI k)), (11, .int (nI (rTo sz k))), (12, .int (nI mark))]) hx hb dX5_tryBehind_102 hl (by decide) rfl (fun ls hl => ?_)
              refine lv_iload hx hb dX5_tryBehind_104 (lv_at hl 7 rfl) ?_
              refine lv_if_ne (tgt := 118) hx hb dX5_tryBehind_106 (by decide) (fun c106 => ?_) (fun c106 => ?_)
              · have hk0 : k ≠ 0 := fun q => c106 (by rw [q]; rfl)
                refine lv_aload_n hx hb dX5_tryBehind_118 rfl (lv_at hl 2 rfl) ?_
                refine lv_iload hx hb dX5_tryBehind_119 (lv_at hl 9 rfl) ?_
                refine lv_lload hx hb dX5_tryBehind_121 (lv_at hl 1 rfl) ?_
                refine lv_lconst (v := 1) hx hb dX5_tryBehind_123 (by decide) ?_
                refine lv_lor hx hb dX5_tryBehind_124 ?_
                refine x_cvl (y := lN (back * 2 ^ (mark - last) ||| 1)) (by exact fb_orL _ _) ?_
                refine lv_lload hx hb dX5_tryBehind_125 (lv_at hl 5 rfl) ?_
                refine lv_lload hx hb dX5_tryBehind_127 (lv_at hl 1 rfl) ?_
                refine lv_lor hx hb dX5_tryBehind_129 ?_
                refine x_cvl (y := lN (lens ||| back * 2 ^ (mark - last))) (by exact fb_orL _ _) ?_
                refine lv_lload hx hb dX5_tryBehind_130 (lv_at hl 0 rfl) ?_
                refine lv_iload hx hb dX5_tryBehind_132 (lv_at hl 7 rfl) ?_
                refine xcS (n := 6) (As := [.ref f, .int (nI mark), .long (lN (back * 2 ^ (mark - last) ||| 1)), .long (lN (lens ||| back * 2 ^ (mark - last))), .long (lN (marks ||| 2 ^ mark)), .int (nI k)]) (rest := []) (wc := [(f, .inr (1, [.int (nI as), .int (nI sz), .int (nI nb1), .int (nI (tr1 + 1)), .long (lN fi1)]))]) (wr := []) X hw (ih f as sz nb1 (tr1 + 1) fi1 mark (back * 2 ^ (mark - last) ||| 1) (lens ||| back * 2 ^ (mark - last)) (marks ||| 2 ^ mark) (mark :: ms) fl1 hsz (by omega) (or1_lt (sp_lt2 hback hm1)) (Nat.or_lt_two_pow hlens hsp) (Nat.or_lt_two_pow hmarks (Nat.pow_lt_pow_right (by decide) (by omega))) (k3_le hk4)) gX5_tryBehind_X5_tryBehind rfl ⟨rfl, rfl⟩ (by decide +kernel) ⟨by dsimp only; omega, by dsimp only; omega⟩ rfl hl.1 rfl (Nat.le_of_ble_eq_true rfl) dX5_tryBehind_134 ⟨by dsimp only; omega, by dsimp only; omega⟩ [0] [] rfl rfl rfl rfl (by decide) (fun r w1 H locs hp hw => ?_)
                obtain ⟨rfl, rfl⟩ := hp
                generalize hacc : rT sz k mark (back * 2 ^ (mark - last) ||| 1) (lens ||| back * 2 ^ (mark - last)) (marks ||| 2 ^ mark) (mark :: ms) (nb1, tr1 + 1, fi1, fl1) = acc at hw
                obtain ⟨nb2, tr2, fi2, fl2⟩ := acc
                have hw := hw.sub (ws' := [(f, .inr (1, [.int (nI as), .int (nI sz), .int (nI nb2), .int (nI tr2), .long (lN fi2)]))]) [0] rfl rfl
                refine W.eq (g2 := F0 mt 137 ls []) rfl ?_
                refine lv_iinc (v := nI (mark + 1)) (lv' := [(12, .int (nI (mark + 1))), (15, .long (lN (marks ||| 2 ^ mark))), (13, .long (lN (back * 2 ^ (mark - last)))), (0, .ref f), (1, .int (nI last)), (2, .long (lN back)), (4, .long (lN lens)), (6, .long (lN marks)), (9, .int (nI k)), (11, .int (nI (rTo sz k)))]) hx hb dX5_tryBehind_137 hl (k := 9) rfl (by exact nI_1 _) (by decide) rfl (fun ls hl => ?_)
                refine lv_goto (tgt := 56) hx hb dX5_tryBehind_140 (by decide) ?_
                exact ih56 (mark + 1) nb2 tr2 fi2 fl2 _ _ _ (by omega) (by omega) (by omega) (by rw [show rTo sz k + 1 - mark = (rTo sz k + 1 - (mark + 1)) + 1 by omega] at hR; unfold rLoop at hR; rw [← hR]; congr 1; unfold rB; rw [if_pos hz, if_neg hk0]; exact hacc.symm) hw (lv_sub hl [3, 4, 5, 6, 7, 8, 9, 0] rfl)
              · have hk0 : k = 0 := i_eq (b := 0) (by omega) (by decide) c106
                refine lv_aload_n hx hb dX5_tryBehind_109 rfl (lv_at hl 2 rfl) ?_
                refine lv_lload hx hb dX5_tryBehind_110 (lv_at hl 0 rfl) ?_
                refine xcV (n := 1) (As := [.long (lN (marks ||| 2 ^ mark))]) (rest := []) (wc := [(f, .inr (1, [.int (nI as), .int (nI sz), .int (nI nb1), .int (nI (tr1 + 1)), .long (lN fi1)]))]) (wr := []) X hw (c_X2_add l G f as sz nb1 (tr1 + 1) fi1 (marks ||| 2 ^ mark) ) (C := RX2) gX5_tryBehind_X2_add (q0 := 0) rfl rfl rfl ⟨rfl, rfl⟩ (by decide +kernel) ⟨by dsimp only; omega, by dsimp only; omega⟩ rfl hl.1 rfl (Nat.le_of_ble_eq_true rfl) dX5_tryBehind_112 ⟨by dsimp only; omega, by dsimp only; omega⟩ [0] [] rfl rfl rfl rfl (by decide) (fun r w1 H locs hp hw => ?_)
                obtain ⟨rfl, rfl⟩ := hp
                have hw := hw.sub (ws' := [(f, .inr (1, [.int (nI as), .int (nI sz), .int (nI (nb1 + 1)), .int (nI (tr1 + 1)), .long (lN (if nI nb1 = 0 then (marks ||| 2 ^ mark) else fi1))]))]) [0] rfl rfl
                refine W.eq (g2 := F0 mt 115 ls []) rfl ?_
                refine lv_goto (tgt := 137) hx hb dX5_tryBehind_115 (by decide) ?_
                refine lv_iinc (v := nI (mark + 1)) (lv' := [(12, .int (nI (mark + 1))), (15, .long (lN (marks ||| 2 ^ mark))), (13, .long (lN (back * 2 ^ (mark - last)))), (0, .ref f), (1, .int (nI last)), (2, .long (lN back)), (4, .long (lN lens)), (6, .long (lN marks)), (9, .int (nI k)), (11, .int (nI (rTo sz k)))]) hx hb dX5_tryBehind_137 hl (k := 9) rfl (by exact nI_1 _) (by decide) rfl (fun ls hl => ?_)
                refine lv_goto (tgt := 56) hx hb dX5_tryBehind_140 (by decide) ?_
                exact ih56 (mark + 1) (nb1 + 1) (tr1 + 1) (if nI nb1 = 0 then marks ||| 2 ^ mark else fi1) (if nI nb1 = 0 then mark :: ms else fl1) _ _ _ (by omega) (by omega) (by omega) (by rw [show rTo sz k + 1 - mark = (rTo sz k + 1 - (mark + 1)) + 1 by omega] at hR; unfold rLoop at hR; rw [← hR]; congr 1; unfold rB; rw [if_pos hz, if_pos hk0]; rfl) hw (lv_sub hl [3, 4, 5, 6, 7, 8, 9, 0] rfl)
            · have hz : ¬ back * 2 ^ (mark - last) &&& lens = 0 := fun q => c88 (lg0.mpr (by rw [q]; rfl))
              refine lv_goto (tgt := 137) hx hb dX5_tryBehind_91 (by decide) ?_
              refine lv_iinc (v := nI (mark + 1)) (lv' := [(12, .int (nI (mark + 1))), (13, .long (lN (back * 2 ^ (mark - last)))), (0, .ref f), (1, .int (nI last)), (2, .long (lN back)), (4, .long (lN lens)), (6, .long (lN marks)), (9, .int (nI k)), (11, .int (nI (rTo sz k)))]) hx hb dX5_tryBehind_137 hl (k := 8) rfl (by exact nI_1 _) (by decide) rfl (fun ls hl => ?_)
              refine lv_goto (tgt := 56) hx hb dX5_tryBehind_140 (by decide) ?_
              exact ih56 (mark + 1) nb1 (tr1 + 1) fi1 fl1 _ _ _ (by omega) (by omega) (by omega) (by rw [show rTo sz k + 1 - mark = (rTo sz k + 1 - (mark + 1)) + 1 by omega] at hR; unfold rLoop at hR; rw [← hR]; congr 1; unfold rB; rw [if_neg hz]; rfl) hw (lv_sub hl [2, 3, 4, 5, 6, 7, 8, 0] rfl)
      exact lp56 _ fr0 nb tr fi fl _ _ _ (Nat.lt_succ_self _) (by rw [hfr]; unfold rFrom; split <;> omega) (by rw [hfr]; unfold rFrom; split <;> omega) (by rw [hfr]; rfl) hw (lv_sub hl [4, 5, 6, 7, 8, 3, 1, 0] rfl)
    refine lv_iload hx hb dX5_tryBehind_13 (lv_at hl 0 rfl) ?_
    refine lv_if_ne (tgt := 31) hx hb dX5_tryBehind_15 (by decide) (fun c15 => ?_) (fun c15 => ?_)
    · have hk0 : k ≠ 0 := fun q => c15 (by rw [q]; rfl)
      refine lv_iload_n hx hb dX5_tryBehind_31 rfl (lv_at hl 2 rfl) ?_
      refine lv_iconst (v := 1) hx hb dX5_tryBehind_32 (by decide) ?_
      refine lv_iadd hx hb dX5_tryBehind_33 ?_
      refine x_cvi (y := nI (last + 1)) (by exact nI_1 _) ?_
      exact jn34 (last + 1) _ _ _ (by unfold rFrom; simp [hk0]) hw (lv_sub hl [0, 1, 2, 3, 4, 5, 6] rfl)
    · have hk0 : k = 0 := i_eq (b := 0) (by omega) (by decide) c15
      refine lv_iload_n hx hb dX5_tryBehind_18 rfl (lv_at hl 2 rfl) ?_
      refine lv_iconst (v := 1) hx hb dX5_tryBehind_19 (by decide) ?_
      refine lv_iadd hx hb dX5_tryBehind_20 ?_
      refine x_cvi (y := nI (last + 1)) (by exact nI_1 _) ?_
      refine lv_aload_n hx hb dX5_tryBehind_21 rfl (lv_at hl 1 rfl) ?_
      refine xgN (host := RX7) X hw (C := RX2) (T := TX2) (N := 5) (by decide +kernel) 0 rfl rfl 1 (by decide) rfl (by decide +kernel) rfl dX5_tryBehind_22 ?_
      refine va_mmax hx hb (by rw [X.2.2.1]; exact hl.1.symm) X.2.2.2.1 (X.2.2.2.2.1 _ (by decide +kernel : Cond.methodLink RX5 27 Lib.Math.max.name ∈ wsX5_tryBehind)) (X.2.2.2.2.1 _ (by decide +kernel : Cond.static Lib.Math.max.name ∈ wsX5_tryBehind)) (X.2.2.2.2.1 _ (by decide +kernel : Cond.initialized "java/lang/Math" ∈ wsX5_tryBehind)) (X.2.2.2.2.1 _ (by decide +kernel : Cond.code Lib.Math.max.name Lib.Math.max.code 2 (some .int) ∈ wsX5_tryBehind)) (by first | (dsimp only; omega) | (simp [Value.category] <;> omega)) (by first | (dsimp only; omega) | (simp [Value.category] <;> omega)) (by first | (dsimp only; omega) | (simp [Value.category] <;> omega)) (by first | (dsimp only; omega) | (simp [Value.category] <;> omega)) dX5_tryBehind_25 ?_
      refine x_cvi (y := nI (max (last + 1) sz)) (by exact i_max (by omega) (by omega)) ?_
      refine lv_goto (tgt := 34) hx hb dX5_tryBehind_28 (by decide) ?_
      exact jn34 (max (last + 1) sz) _ _ _ (by unfold rFrom; simp [hk0]) hw (lv_sub hl [0, 1, 2, 3, 4, 5, 6] rfl)
  · exact absurd (nI_leI (a := 1) (b := k + 1) (by decide) (by omega) |>.mpr (by omega)) c3
