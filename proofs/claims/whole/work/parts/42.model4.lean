set_option maxHeartbeats 4000000 in
set_option maxRecDepth 100000 in
theorem c_X8_passRow_w (l : Launch) (G : GG) (mo : Nat) (th : Nat) (ea : Nat) (sa : Nat) (lk : Nat) (lq : Nat) (lz : Nat) (rb : Nat) (rn : Nat) (rt : Nat) (rk : Nat) (cb : Nat) (cm : Nat) (cu : Nat) (ck : Nat) (mk : Nat) (nt : Nat) (kp : Nat) (iq : Nat) (lg : Int32) (un : Int32) (tm : Int32) (kr : Int32) (kc : Int32) (se : Int32) (tr : Int32) (ra : Nat) (o : Nat) (f : Nat → Int32) (g : Nat → Int32) (ho : o + 61 ≤ 366) : CT l G yX8_passRow wsX8_passRow ({ frames := 0, cells := 0, slots := 0, locals := 0 } : Room) [.ref mo, .ref ra] [(mo, .inr (5, [.ref th, .ref ea, .ref sa, .ref lk, .ref lq, .ref lz, .int lg, .int un, .int tm, .ref rb, .ref rn, .ref rt, .ref rk, .int kr, .ref cb, .ref cm, .ref cu, .ref ck, .int kc, .int se, .int tr, .ref mk, .ref nt, .ref kp, .ref iq, .int (nI o), .int 1])), (ra, .inl (G.2.1, 61, .inl f)), (kp, .inl (G.2.1, 366, .inl g))] (fun r w => r = none ∧ w = [(mo, .inr (5, [.ref th, .ref ea, .ref sa, .ref lk, .ref lq, .ref lz, .int lg, .int un, .int tm, .ref rb, .ref rn, .ref rt, .ref rk, .int kr, .ref cb, .ref cm, .ref cu, .ref ck, .int kc, .int se, .int tr, .ref mk, .ref nt, .ref kp, .ref iq, .int (nI (o + 61)), .int 1])), (ra, .inl (G.2.1, 61, .inl f)), (kp, .inl (G.2.1, 366, .inl (cpy f g o 61)))]) 0 0 := by
  refine ct_v (cc := cX8_passRow) (maxL := 3) (by decide +kernel) rfl (Nat.le_of_ble_eq_true rfl) ?_
  intro p e s mt below meth c A Q X hw hret ls hl
  obtain ⟨hx, hb, -⟩ := id X
  have hl : lv_has ls 3 [(0, .ref mo), (1, .ref ra)] := hl
  refine lv_iconst (v := 0) hx hb dX8_passRow_0 (by decide) ?_
  refine x_cvi (y := nI 0) (by rfl) ?_
  refine lv_istore_n (lv' := [(2, .int (nI 0)), (0, .ref mo), (1, .ref ra)]) hx hb dX8_passRow_1 rfl hl (by decide) rfl (fun ls hl => ?_)
  have lp2 : ∀ (fu : Nat) (k : Nat) (H : Heap) (locs : List Loc) (ls : Array Slot), 61 - k < fu → (k ≤ 61) → WS G A s.heap H locs [(mo, .inr (5, [.ref th, .ref ea, .ref sa, .ref lk, .ref lq, .ref lz, .int lg, .int un, .int tm, .ref rb, .ref rn, .ref rt, .ref rk, .int kr, .ref cb, .ref cm, .ref cu, .ref ck, .int kc, .int se, .int tr, .ref mk, .ref nt, .ref kp, .ref iq, .int (nI (o + k)), .int 1])), (ra, .inl (G.2.1, 61, .inl f)), (kp, .inl (G.2.1, 366, .inl (cpy f g o k)))] → lv_has ls 3 [(0, .ref mo), (1, .ref ra), (2, .int (nI k))] → W p l e ({ frames := 0, cells := 0, slots := 0, locals := 0 } : Room) s mt ([.ref mo, .ref ra] : List Value).toArray below meth c H locs 0 0 Q (F0 mt 2 ls []) := by
    intro fu
    induction fu with
    | zero =>
      intro k H locs ls hmu
      exact absurd hmu (Nat.not_lt_zero _)
    | succ fu ih2 =>
      intro k H locs ls hmu2 hk hw hl
      refine lv_iload_n hx hb dX8_passRow_2 rfl (lv_at hl 2 rfl) ?_
      refine lv_bipush (v := 61) hx hb dX8_passRow_3 (by decide) ?_
      refine lv_icmp_ge (tgt := 61) hx hb dX8_passRow_5 (by decide) (fun c5 => ?_) (fun c5 => ?_)
      · have hk2 : 61 ≤ k := i_le (a := 61) (by decide) (by omega) c5
        refine hret _ _ _ _ _ dX8_passRow_61 hw ?_
        obtain rfl : k = 61 := by omega
        exact ⟨rfl, rfl⟩
      · have hk2 : k < 61 := i_nle (a := 61) (by decide) (by omega) c5
        refine lv_aload_n hx hb dX8_passRow_8 rfl (lv_at hl 1 rfl) ?_
        refine lv_iload_n hx hb dX8_passRow_9 rfl (lv_at hl 2 rfl) ?_
        refine lv_aload_n hx hb dX8_passRow_10 rfl (lv_at hl 0 rfl) ?_
        refine xg X hw (C := RX8) (T := TX8) (N := 27) (by decide +kernel) 0 rfl rfl 26 (by decide) rfl (by decide +kernel) rfl dX8_passRow_11 ?_
        refine lv_if_eq (tgt := 23) hx hb dX8_passRow_14 (by decide) (fun c14 => ?_) (fun c14 => ?_)
        · exact absurd c14 (by decide)
        · skip
          refine lv_aload_n hx hb dX8_passRow_17 rfl (lv_at hl 1 rfl) ?_
          refine lv_iload_n hx hb dX8_passRow_18 rfl (lv_at hl 2 rfl) ?_
          refine xia X hw 1 rfl (j := k) (rfl) (by omega) (by decide) dX8_passRow_19 ?_
          refine lv_goto (tgt := 32) hx hb dX8_passRow_20 (by decide) ?_
          refine xis X hw 1 rfl (j := k) (rfl) (by omega) (by decide) dX8_passRow_32 (ws' := [(mo, .inr (5, [.ref th, .ref ea, .ref sa, .ref lk, .ref lq, .ref lz, .int lg, .int un, .int tm, .ref rb, .ref rn, .ref rt, .ref rk, .int kr, .ref cb, .ref cm, .ref cu, .ref ck, .int kc, .int se, .int tr, .ref mk, .ref nt, .ref kp, .ref iq, .int (nI (o + k)), .int 1])), (ra, .inl (G.2.1, 61, .inl (upd f k (f k)))), (kp, .inl (G.2.1, 366, .inl (cpy f g o k)))]) rfl (fun H locs hw => ?_)
          rw [fa_upd_same rfl] at hw
          refine lv_aload_n hx hb dX8_passRow_33 rfl (lv_at hl 0 rfl) ?_
          refine xg X hw (C := RX8) (T := TX8) (N := 27) (by decide +kernel) 0 rfl rfl 23 (by decide) rfl (by decide +kernel) rfl dX8_passRow_34 ?_
          refine lv_aload_n hx hb dX8_passRow_37 rfl (lv_at hl 0 rfl) ?_
          refine xg X hw (C := RX8) (T := TX8) (N := 27) (by decide +kernel) 0 rfl rfl 25 (by decide) rfl (by decide +kernel) rfl dX8_passRow_38 ?_
          refine lv_aload_n hx hb dX8_passRow_41 rfl (lv_at hl 1 rfl) ?_
          refine lv_iload_n hx hb dX8_passRow_42 rfl (lv_at hl 2 rfl) ?_
          refine xia X hw 1 rfl (j := k) (rfl) (by omega) (by decide) dX8_passRow_43 ?_
          refine xis X hw 2 rfl (j := (o + k)) (rfl) (by omega) (by decide) dX8_passRow_44 (ws' := [(mo, .inr (5, [.ref th, .ref ea, .ref sa, .ref lk, .ref lq, .ref lz, .int lg, .int un, .int tm, .ref rb, .ref rn, .ref rt, .ref rk, .int kr, .ref cb, .ref cm, .ref cu, .ref ck, .int kc, .int se, .int tr, .ref mk, .ref nt, .ref kp, .ref iq, .int (nI (o + k)), .int 1])), (ra, .inl (G.2.1, 61, .inl f)), (kp, .inl (G.2.1, 366, .inl (upd (cpy f g o k) (o + k) (f k))))]) rfl (fun H locs hw => ?_)
          rw [cpy_up] at hw
          refine lv_aload_n hx hb dX8_passRow_45 rfl (lv_at hl 0 rfl) ?_
          refine lv_dup hx hb dX8_passRow_46 rfl ?_
          refine xg X hw (C := RX8) (T := TX8) (N := 27) (by decide +kernel) 0 rfl rfl 25 (by decide) rfl (by decide +kernel) rfl dX8_passRow_47 ?_
          refine lv_iconst (v := 1) hx hb dX8_passRow_50 (by decide) ?_
          refine lv_iadd hx hb dX8_passRow_51 ?_
          refine x_cvi (y := nI (o + (k + 1))) (by exact nI_1 _) ?_
          refine xp X hw (C := RX8) (ty := .int) (T := TX8) (N := 27) (by decide +kernel) tyX8 tyX8_ok nmX8 0 rfl rfl 25 (by decide) rfl (by decide +kernel) rfl (by decide +kernel) rfl rfl (Nat.le_of_ble_eq_true rfl) dX8_passRow_52 (ws' := [(mo, .inr (5, [.ref th, .ref ea, .ref sa, .ref lk, .ref lq, .ref lz, .int lg, .int un, .int tm, .ref rb, .ref rn, .ref rt, .ref rk, .int kr, .ref cb, .ref cm, .ref cu, .ref ck, .int kc, .int se, .int tr, .ref mk, .ref nt, .ref kp, .ref iq, .int (nI (o + (k + 1))), .int 1])), (ra, .inl (G.2.1, 61, .inl f)), (kp, .inl (G.2.1, 366, .inl (cpy f g o (k + 1))))]) rfl (fun H locs hw => ?_)
          refine lv_iinc (v := nI (k + 1)) (lv' := [(2, .int (nI (k + 1))), (0, .ref mo), (1, .ref ra)]) hx hb dX8_passRow_55 hl (k := 2) rfl (by exact nI_1 _) (by decide) rfl (fun ls hl => ?_)
          refine lv_goto (tgt := 2) hx hb dX8_passRow_58 (by decide) ?_
          exact ih2 (k + 1) _ _ _ (by omega) (by omega) hw (lv_sub hl [1, 2, 0] rfl)
  have hw : WS G A s.heap s.heap [] [(mo, .inr (5, [.ref th, .ref ea, .ref sa, .ref lk, .ref lq, .ref lz, .int lg, .int un, .int tm, .ref rb, .ref rn, .ref rt, .ref rk, .int kr, .ref cb, .ref cm, .ref cu, .ref ck, .int kc, .int se, .int tr, .ref mk, .ref nt, .ref kp, .ref iq, .int (nI (o + 0)), .int 1])), (ra, .inl (G.2.1, 61, .inl f)), (kp, .inl (G.2.1, 366, .inl (cpy f g o 0)))] := by rw [cpy_0]; exact hw
  exact lp2 _ 0 _ _ _ (Nat.lt_succ_self _) (by decide) hw (lv_sub hl [1, 2, 0] rfl)

set_option maxHeartbeats 4000000 in
set_option maxRecDepth 100000 in
theorem c_X8_passRow_r (l : Launch) (G : GG) (mo : Nat) (th : Nat) (ea : Nat) (sa : Nat) (lk : Nat) (lq : Nat) (lz : Nat) (rb : Nat) (rn : Nat) (rt : Nat) (rk : Nat) (cb : Nat) (cm : Nat) (cu : Nat) (ck : Nat) (mk : Nat) (nt : Nat) (kp : Nat) (iq : Nat) (lg : Int32) (un : Int32) (tm : Int32) (kr : Int32) (kc : Int32) (se : Int32) (tr : Int32) (ra : Nat) (o : Nat) (f : Nat → Int32) (g : Nat → Int32) (ho : o + 61 ≤ 366) : CT l G yX8_passRow wsX8_passRow ({ frames := 0, cells := 0, slots := 0, locals := 0 } : Room) [.ref mo, .ref ra] [(mo, .inr (5, [.ref th, .ref ea, .ref sa, .ref lk, .ref lq, .ref lz, .int lg, .int un, .int tm, .ref rb, .ref rn, .ref rt, .ref rk, .int kr, .ref cb, .ref cm, .ref cu, .ref ck, .int kc, .int se, .int tr, .ref mk, .ref nt, .ref kp, .ref iq, .int (nI o), .int 0])), (ra, .inl (G.2.1, 61, .inl f)), (kp, .inl (G.2.1, 366, .inl g))] (fun r w => r = none ∧ w = [(mo, .inr (5, [.ref th, .ref ea, .ref sa, .ref lk, .ref lq, .ref lz, .int lg, .int un, .int tm, .ref rb, .ref rn, .ref rt, .ref rk, .int kr, .ref cb, .ref cm, .ref cu, .ref ck, .int kc, .int se, .int tr, .ref mk, .ref nt, .ref kp, .ref iq, .int (nI (o + 61)), .int 0])), (ra, .inl (G.2.1, 61, .inl (fa_fill (rdR g o) f 61))), (kp, .inl (G.2.1, 366, .inl g))]) 0 0 := by
  refine ct_v (cc := cX8_passRow) (maxL := 3) (by decide +kernel) rfl (Nat.le_of_ble_eq_true rfl) ?_
  intro p e s mt below meth c A Q X hw hret ls hl
  obtain ⟨hx, hb, -⟩ := id X
  have hl : lv_has ls 3 [(0, .ref mo), (1, .ref ra)] := hl
  refine lv_iconst (v := 0) hx hb dX8_passRow_0 (by decide) ?_
  refine x_cvi (y := nI 0) (by rfl) ?_
  refine lv_istore_n (lv' := [(2, .int (nI 0)), (0, .ref mo), (1, .ref ra)]) hx hb dX8_passRow_1 rfl hl (by decide) rfl (fun ls hl => ?_)
  have lp2 : ∀ (fu : Nat) (k : Nat) (H : Heap) (locs : List Loc) (ls : Array Slot), 61 - k < fu → (k ≤ 61) → WS G A s.heap H locs [(mo, .inr (5, [.ref th, .ref ea, .ref sa, .ref lk, .ref lq, .ref lz, .int lg, .int un, .int tm, .ref rb, .ref rn, .ref rt, .ref rk, .int kr, .ref cb, .ref cm, .ref cu, .ref ck, .int kc, .int se, .int tr, .ref mk, .ref nt, .ref kp, .ref iq, .int (nI (o + k)), .int 0])), (ra, .inl (G.2.1, 61, .inl (fa_fill (rdR g o) f k))), (kp, .inl (G.2.1, 366, .inl g))] → lv_has ls 3 [(0, .ref mo), (1, .ref ra), (2, .int (nI k))] → W p l e ({ frames := 0, cells := 0, slots := 0, locals := 0 } : Room) s mt ([.ref mo, .ref ra] : List Value).toArray below meth c H locs 0 0 Q (F0 mt 2 ls []) := by
    intro fu
    induction fu with
    | zero =>
      intro k H locs ls hmu
      exact absurd hmu (Nat.not_lt_zero _)
    | succ fu ih2 =>
      intro k H locs ls hmu2 hk hw hl
      refine lv_iload_n hx hb dX8_passRow_2 rfl (lv_at hl 2 rfl) ?_
      refine lv_bipush (v := 61) hx hb dX8_passRow_3 (by decide) ?_
      refine lv_icmp_ge (tgt := 61) hx hb dX8_passRow_5 (by decide) (fun c5 => ?_) (fun c5 => ?_)
      · have hk2 : 61 ≤ k := i_le (a := 61) (by decide) (by omega) c5
        refine hret _ _ _ _ _ dX8_passRow_61 hw ?_
        obtain rfl : k = 61 := by omega
        exact ⟨rfl, rfl⟩
      · have hk2 : k < 61 := i_nle (a := 61) (by decide) (by omega) c5
        refine lv_aload_n hx hb dX8_passRow_8 rfl (lv_at hl 1 rfl) ?_
        refine lv_iload_n hx hb dX8_passRow_9 rfl (lv_at hl 2 rfl) ?_
        refine lv_aload_n hx hb dX8_passRow_10 rfl (lv_at hl 0 rfl) ?_
        refine xg X hw (C := RX8) (T := TX8) (N := 27) (by decide +kernel) 0 rfl rfl 26 (by decide) rfl (by decide +kernel) rfl dX8_passRow_11 ?_
        refine lv_if_eq (tgt := 23) hx hb dX8_passRow_14 (by decide) (fun c14 => ?_) (fun c14 => ?_)
        · skip
          refine lv_aload_n hx hb dX8_passRow_23 rfl (lv_at hl 0 rfl) ?_
          refine xg X hw (C := RX8) (T := TX8) (N := 27) (by decide +kernel) 0 rfl rfl 23 (by decide) rfl (by decide +kernel) rfl dX8_passRow_24 ?_
          refine lv_aload_n hx hb dX8_passRow_27 rfl (lv_at hl 0 rfl) ?_
          refine xg X hw (C := RX8) (T := TX8) (N := 27) (by decide +kernel) 0 rfl rfl 25 (by decide) rfl (by decide +kernel) rfl dX8_passRow_28 ?_
          refine xia X hw 2 rfl (j := (o + k)) (rfl) (by omega) (by decide) dX8_passRow_31 ?_
          refine xis X hw 1 rfl (j := k) (rfl) (by omega) (by decide) dX8_passRow_32 (ws' := [(mo, .inr (5, [.ref th, .ref ea, .ref sa, .ref lk, .ref lq, .ref lz, .int lg, .int un, .int tm, .ref rb, .ref rn, .ref rt, .ref rk, .int kr, .ref cb, .ref cm, .ref cu, .ref ck, .int kc, .int se, .int tr, .ref mk, .ref nt, .ref kp, .ref iq, .int (nI (o + k)), .int 0])), (ra, .inl (G.2.1, 61, .inl (upd (fa_fill (rdR g o) f k) k (g (o + k))))), (kp, .inl (G.2.1, 366, .inl g))]) rfl (fun H locs hw => ?_)
          have hw := hw
          rw [show g (o + k) = rdR g o k from rfl, fa_fill_succ] at hw
          refine lv_aload_n hx hb dX8_passRow_33 rfl (lv_at hl 0 rfl) ?_
          refine xg X hw (C := RX8) (T := TX8) (N := 27) (by decide +kernel) 0 rfl rfl 23 (by decide) rfl (by decide +kernel) rfl dX8_passRow_34 ?_
          refine lv_aload_n hx hb dX8_passRow_37 rfl (lv_at hl 0 rfl) ?_
          refine xg X hw (C := RX8) (T := TX8) (N := 27) (by decide +kernel) 0 rfl rfl 25 (by decide) rfl (by decide +kernel) rfl dX8_passRow_38 ?_
          refine lv_aload_n hx hb dX8_passRow_41 rfl (lv_at hl 1 rfl) ?_
          refine lv_iload_n hx hb dX8_passRow_42 rfl (lv_at hl 2 rfl) ?_
          refine xia X hw 1 rfl (j := k) (rfl) (by omega) (by decide) dX8_passRow_43 ?_
          refine xis X hw 2 rfl (j := (o + k)) (rfl) (by omega) (by decide) dX8_passRow_44 (ws' := [(mo, .inr (5, [.ref th, .ref ea, .ref sa, .ref lk, .ref lq, .ref lz, .int lg, .int un, .int tm, .ref rb, .ref rn, .ref rt, .ref rk, .int kr, .ref cb, .ref cm, .ref cu, .ref ck, .int kc, .int se, .int tr, .ref mk, .ref nt, .ref kp, .ref iq, .int (nI (o + k)), .int 0])), (ra, .inl (G.2.1, 61, .inl (fa_fill (rdR g o) f (k + 1)))), (kp, .inl (G.2.1, 366, .inl (upd g (o + k) ((fa_fill (rdR g o) f (k + 1)) k))))]) rfl (fun H locs hw => ?_)
          rw [rd_same (by rw [fa_fill_in (by omega)]; rfl)] at hw
          refine lv_aload_n hx hb dX8_passRow_45 rfl (lv_at hl 0 rfl) ?_
          refine lv_dup hx hb dX8_passRow_46 rfl ?_
          refine xg X hw (C := RX8) (T := TX8) (N := 27) (by decide +kernel) 0 rfl rfl 25 (by decide) rfl (by decide +kernel) rfl dX8_passRow_47 ?_
          refine lv_iconst (v := 1) hx hb dX8_passRow_50 (by decide) ?_
          refine lv_iadd hx hb dX8_passRow_51 ?_
          refine x_cvi (y := nI (o + (k + 1))) (by exact nI_1 _) ?_
          refine xp X hw (C := RX8) (ty := .int) (T := TX8) (N := 27) (by decide +kernel) tyX8 tyX8_ok nmX8 0 rfl rfl 25 (by decide) rfl (by decide +kernel) rfl (by decide +kernel) rfl rfl (Nat.le_of_ble_eq_true rfl) dX8_passRow_52 (ws' := [(mo, .inr (5, [.ref th, .ref ea, .ref sa, .ref lk, .ref lq, .ref lz, .int lg, .int un, .int tm, .ref rb, .ref rn, .ref rt, .ref rk, .int kr, .ref cb, .ref cm, .ref cu, .ref ck, .int kc, .int se, .int tr, .ref mk, .ref nt, .ref kp, .ref iq, .int (nI (o + (k + 1))), .int 0])), (ra, .inl (G.2.1, 61, .inl (fa_fill (rdR g o) f (k + 1)))), (kp, .inl (G.2.1, 366, .inl g))]) rfl (fun H locs hw => ?_)
          refine lv_iinc (v := nI (k + 1)) (lv' := [(2, .int (nI (k + 1))), (0, .ref mo), (1, .ref ra)]) hx hb dX8_passRow_55 hl (k := 2) rfl (by exact nI_1 _) (by decide) rfl (fun ls hl => ?_)
          refine lv_goto (tgt := 2) hx hb dX8_passRow_58 (by decide) ?_
          exact ih2 (k + 1) _ _ _ (by omega) (by omega) hw (lv_sub hl [1, 2, 0] rfl)
        · exact absurd rfl c14
  have hw : WS G A s.heap s.heap [] [(mo, .inr (5, [.ref th, .ref ea, .ref sa, .ref lk, .ref lq, .ref lz, .int lg, .int un, .int tm, .ref rb, .ref rn, .ref rt, .ref rk, .int kr, .ref cb, .ref cm, .ref cu, .ref ck, .int kc, .int se, .int tr, .ref mk, .ref nt, .ref kp, .ref iq, .int (nI (o + 0)), .int 0])), (ra, .inl (G.2.1, 61, .inl (fa_fill (rdR g o) f 0))), (kp, .inl (G.2.1, 366, .inl g))] := hw
  exact lp2 _ 0 _ _ _ (Nat.lt_succ_self _) (by decide) hw (lv_sub hl [1, 2, 0] rfl)

set_option maxHeartbeats 4000000 in
set_option maxRecDepth 100000 in
theorem c_X8_passAll_w (l : Launch) (G : GG) (mo : Nat) (th : Nat) (ea : Nat) (sa : Nat) (lk : Nat) (lq : Nat) (lz : Nat) (rb : Nat) (rn : Nat) (rt : Nat) (rk : Nat) (cb : Nat) (cm : Nat) (cu : Nat) (ck : Nat) (mk : Nat) (nt : Nat) (kp : Nat) (iq : Nat) (lg : Int32) (un : Int32) (tm : Int32) (kr : Int32) (kc : Int32) (se : Int32) (tr : Int32) (o : Nat) (tf : Nat → Int32) (em : Nat → Int32) (sk : Nat → Int32) (g : Nat → Int32) (ho : o + 183 ≤ 366) : CT l G yX8_passAll wsX8_passAll ({ frames := 1, cells := 0, slots := 0, locals := 22 } : Room) [.ref mo] [(mo, .inr (5, [.ref th, .ref ea, .ref sa, .ref lk, .ref lq, .ref lz, .int lg, .int un, .int tm, .ref rb, .ref rn, .ref rt, .ref rk, .int kr, .ref cb, .ref cm, .ref cu, .ref ck, .int kc, .int se, .int tr, .ref mk, .ref nt, .ref kp, .ref iq, .int (nI o), .int 1])), (th, .inl (G.2.1, 61, .inl tf)), (ea, .inl (G.2.1, 61, .inl em)), (sa, .inl (G.2.1, 61, .inl sk)), (kp, .inl (G.2.1, 366, .inl g))] (fun r w => r = none ∧ w = [(mo, .inr (5, [.ref th, .ref ea, .ref sa, .ref lk, .ref lq, .ref lz, .int lg, .int un, .int tm, .ref rb, .ref rn, .ref rt, .ref rk, .int kr, .ref cb, .ref cm, .ref cu, .ref ck, .int kc, .int se, .int tr, .ref mk, .ref nt, .ref kp, .ref iq, .int (nI (o + 61 + 61 + 61)), .int 1])), (th, .inl (G.2.1, 61, .inl tf)), (ea, .inl (G.2.1, 61, .inl em)), (sa, .inl (G.2.1, 61, .inl sk)), (kp, .inl (G.2.1, 366, .inl (cpy sk (cpy em (cpy tf g o 61) (o + 61) 61) (o + 61 + 61) 61)))]) 0 0 := by
  refine ct_v (cc := cX8_passAll) (maxL := 1) (by decide +kernel) rfl (Nat.le_of_ble_eq_true rfl) ?_
  intro p e s mt below meth c A Q X hw hret ls hl
  obtain ⟨hx, hb, -⟩ := id X
  have hl : lv_has ls 1 [(0, .ref mo)] := hl
  refine lv_aload_n hx hb dX8_passAll_0 rfl (lv_at hl 0 rfl) ?_
  refine lv_aload_n hx hb dX8_passAll_1 rfl (lv_at hl 0 rfl) ?_
  refine xg X hw (C := RX8) (T := TX8) (N := 27) (by decide +kernel) 0 rfl rfl 0 (by decide) rfl (by decide +kernel) rfl dX8_passAll_2 ?_
  refine xcV (n := 1) (As := [.ref th]) (rest := []) (wc := [(mo, .inr (5, [.ref th, .ref ea, .ref sa, .ref lk, .ref lq, .ref lz, .int lg, .int un, .int tm, .ref rb, .ref rn, .ref rt, .ref rk, .int kr, .ref cb, .ref cm, .ref cu, .ref ck, .int kc, .int se, .int tr, .ref mk, .ref nt, .ref kp, .ref iq, .int (nI o), .int 1])), (th, .inl (G.2.1, 61, .inl tf)), (kp, .inl (G.2.1, 366, .inl g))]) (wr := [(ea, .inl (G.2.1, 61, .inl em)), (sa, .inl (G.2.1, 61, .inl sk))]) X hw (c_X8_passRow_w l G mo th ea sa lk lq lz rb rn rt rk cb cm cu ck mk nt kp iq lg un tm kr kc se tr th o tf g (by omega)) (C := RX8) gX8_passAll_X8_passRow (q0 := 0) rfl rfl rfl ⟨rfl, rfl⟩ (by decide +kernel) ⟨by decide, by decide⟩ rfl hl.1 rfl (Nat.le_of_ble_eq_true rfl) dX8_passAll_5 ⟨by decide, by decide⟩ [0, 1, 4] [2, 3] rfl rfl rfl rfl (by decide) (fun r w1 H locs hp hw => ?_)
  obtain ⟨rfl, rfl⟩ := hp
  have hw := hw.sub (ws' := [(mo, .inr (5, [.ref th, .ref ea, .ref sa, .ref lk, .ref lq, .ref lz, .int lg, .int un, .int tm, .ref rb, .ref rn, .ref rt, .ref rk, .int kr, .ref cb, .ref cm, .ref cu, .ref ck, .int kc, .int se, .int tr, .ref mk, .ref nt, .ref kp, .ref iq, .int (nI (o + 61)), .int 1])), (th, .inl (G.2.1, 61, .inl tf)), (ea, .inl (G.2.1, 61, .inl em)), (sa, .inl (G.2.1, 61, .inl sk)), (kp, .inl (G.2.1, 366, .inl (cpy tf g o 61)))]) [2, 3, 0, 1, 4] rfl rfl
  refine W.eq (g2 := F0 mt 8 ls []) rfl ?_
  refine lv_aload_n hx hb dX8_passAll_8 rfl (lv_at hl 0 rfl) ?_
  refine lv_aload_n hx hb dX8_passAll_9 rfl (lv_at hl 0 rfl) ?_
  refine xg X hw (C := RX8) (T := TX8) (N := 27) (by decide +kernel) 0 rfl rfl 1 (by decide) rfl (by decide +kernel) rfl dX8_passAll_10 ?_
  refine xcV (n := 1) (As := [.ref ea]) (rest := []) (wc := [(mo, .inr (5, [.ref th, .ref ea, .ref sa, .ref lk, .ref lq, .ref lz, .int lg, .int un, .int tm, .ref rb, .ref rn, .ref rt, .ref rk, .int kr, .ref cb, .ref cm, .ref cu, .ref ck, .int kc, .int se, .int tr, .ref mk, .ref nt, .ref kp, .ref iq, .int (nI (o + 61)), .int 1])), (ea, .inl (G.2.1, 61, .inl em)), (kp, .inl (G.2.1, 366, .inl (cpy tf g o 61)))]) (wr := [(th, .inl (G.2.1, 61, .inl tf)), (sa, .inl (G.2.1, 61, .inl sk))]) X hw (c_X8_passRow_w l G mo th ea sa lk lq lz rb rn rt rk cb cm cu ck mk nt kp iq lg un tm kr kc se tr ea (o + 61) em (cpy tf g o 61) (by omega)) (C := RX8) gX8_passAll_X8_passRow (q0 := 0) rfl rfl rfl ⟨rfl, rfl⟩ (by decide +kernel) ⟨by decide, by decide⟩ rfl hl.1 rfl (Nat.le_of_ble_eq_true rfl) dX8_passAll_13 ⟨by decide, by decide⟩ [0, 2, 4] [1, 3] rfl rfl rfl rfl (by decide) (fun r w1 H locs hp hw => ?_)
  obtain ⟨rfl, rfl⟩ := hp
  have hw := hw.sub (ws' := [(mo, .inr (5, [.ref th, .ref ea, .ref sa, .ref lk, .ref lq, .ref lz, .int lg, .int un, .int tm, .ref rb, .ref rn, .ref rt, .ref rk, .int kr, .ref cb, .ref cm, .ref cu, .ref ck, .int kc, .int se, .int tr, .ref mk, .ref nt, .ref kp, .ref iq, .int (nI ((o + 61) + 61)), .int 1])), (th, .inl (G.2.1, 61, .inl tf)), (ea, .inl (G.2.1, 61, .inl em)), (sa, .inl (G.2.1, 61, .inl sk)), (kp, .inl (G.2.1, 366, .inl (cpy em (cpy tf g o 61) (o + 61) 61)))]) [2, 0, 3, 1, 4] rfl rfl
  refine W.eq (g2 := F0 mt 16 ls []) rfl ?_
  refine lv_aload_n hx hb dX8_passAll_16 rfl (lv_at hl 0 rfl) ?_
  refine lv_aload_n hx hb dX8_passAll_17 rfl (lv_at hl 0 rfl) ?_
  refine xg X hw (C := RX8) (T := TX8) (N := 27) (by decide +kernel) 0 rfl rfl 2 (by decide) rfl (by decide +kernel) rfl dX8_passAll_18 ?_
  refine xcV (n := 1) (As := [.ref sa]) (rest := []) (wc := [(mo, .inr (5, [.ref th, .ref ea, .ref sa, .ref lk, .ref lq, .ref lz, .int lg, .int un, .int tm, .ref rb, .ref rn, .ref rt, .ref rk, .int kr, .ref cb, .ref cm, .ref cu, .ref ck, .int kc, .int se, .int tr, .ref mk, .ref nt, .ref kp, .ref iq, .int (nI ((o + 61) + 61)), .int 1])), (sa, .inl (G.2.1, 61, .inl sk)), (kp, .inl (G.2.1, 366, .inl (cpy em (cpy tf g o 61) (o + 61) 61)))]) (wr := [(th, .inl (G.2.1, 61, .inl tf)), (ea, .inl (G.2.1, 61, .inl em))]) X hw (c_X8_passRow_w l G mo th ea sa lk lq lz rb rn rt rk cb cm cu ck mk nt kp iq lg un tm kr kc se tr sa ((o + 61) + 61) sk (cpy em (cpy tf g o 61) (o + 61) 61) (by omega)) (C := RX8) gX8_passAll_X8_passRow (q0 := 0) rfl rfl rfl ⟨rfl, rfl⟩ (by decide +kernel) ⟨by decide, by decide⟩ rfl hl.1 rfl (Nat.le_of_ble_eq_true rfl) dX8_passAll_21 ⟨by decide, by decide⟩ [0, 3, 4] [1, 2] rfl rfl rfl rfl (by decide) (fun r w1 H locs hp hw => ?_)
  obtain ⟨rfl, rfl⟩ := hp
  have hw := hw.sub (ws' := [(mo, .inr (5, [.ref th, .ref ea, .ref sa, .ref lk, .ref lq, .ref lz, .int lg, .int un, .int tm, .ref rb, .ref rn, .ref rt, .ref rk, .int kr, .ref cb, .ref cm, .ref cu, .ref ck, .int kc, .int se, .int tr, .ref mk, .ref nt, .ref kp, .ref iq, .int (nI (((o + 61) + 61) + 61)), .int 1])), (th, .inl (G.2.1, 61, .inl tf)), (ea, .inl (G.2.1, 61, .inl em)), (sa, .inl (G.2.1, 61, .inl sk)), (kp, .inl (G.2.1, 366, .inl (cpy sk (cpy em (cpy tf g o 61) (o + 61) 61) ((o + 61) + 61) 61)))]) [2, 0, 1, 3, 4] rfl rfl
  refine W.eq (g2 := F0 mt 24 ls []) rfl ?_
  refine hret _ _ _ _ _ dX8_passAll_24 hw ?_
  exact ⟨rfl, rfl⟩

set_option maxHeartbeats 4000000 in
set_option maxRecDepth 100000 in
theorem c_X8_passAll_r (l : Launch) (G : GG) (mo : Nat) (th : Nat) (ea : Nat) (sa : Nat) (lk : Nat) (lq : Nat) (lz : Nat) (rb : Nat) (rn : Nat) (rt : Nat) (rk : Nat) (cb : Nat) (cm : Nat) (cu : Nat) (ck : Nat) (mk : Nat) (nt : Nat) (kp : Nat) (iq : Nat) (lg : Int32) (un : Int32) (tm : Int32) (kr : Int32) (kc : Int32) (se : Int32) (tr : Int32) (o : Nat) (tf : Nat → Int32) (em : Nat → Int32) (sk : Nat → Int32) (g : Nat → Int32) (ho : o + 183 ≤ 366) : CT l G yX8_passAll wsX8_passAll ({ frames := 1, cells := 0, slots := 0, locals := 22 } : Room) [.ref mo] [(mo, .inr (5, [.ref th, .ref ea, .ref sa, .ref lk, .ref lq, .ref lz, .int lg, .int un, .int tm, .ref rb, .ref rn, .ref rt, .ref rk, .int kr, .ref cb, .ref cm, .ref cu, .ref ck, .int kc, .int se, .int tr, .ref mk, .ref nt, .ref kp, .ref iq, .int (nI o), .int 0])), (th, .inl (G.2.1, 61, .inl tf)), (ea, .inl (G.2.1, 61, .inl em)), (sa, .inl (G.2.1, 61, .inl sk)), (kp, .inl (G.2.1, 366, .inl g))] (fun r w => r = none ∧ w = [(mo, .inr (5, [.ref th, .ref ea, .ref sa, .ref lk, .ref lq, .ref lz, .int lg, .int un, .int tm, .ref rb, .ref rn, .ref rt, .ref rk, .int kr, .ref cb, .ref cm, .ref cu, .ref ck, .int kc, .int se, .int tr, .ref mk, .ref nt, .ref kp, .ref iq, .int (nI (o + 61 + 61 + 61)), .int 0])), (th, .inl (G.2.1, 61, .inl (fa_fill (rdR g o) tf 61))), (ea, .inl (G.2.1, 61, .inl (fa_fill (rdR g (o + 61)) em 61))), (sa, .inl (G.2.1, 61, .inl (fa_fill (rdR g (o + 61 + 61)) sk 61))), (kp, .inl (G.2.1, 366, .inl g))]) 0 0 := by
  refine ct_v (cc := cX8_passAll) (maxL := 1) (by decide +kernel) rfl (Nat.le_of_ble_eq_true rfl) ?_
  intro p e s mt below meth c A Q X hw hret ls hl
  obtain ⟨hx, hb, -⟩ := id X
  have hl : lv_has ls 1 [(0, .ref mo)] := hl
  refine lv_aload_n hx hb dX8_passAll_0 rfl (lv_at hl 0 rfl) ?_
  refine lv_aload_n hx hb dX8_passAll_1 rfl (lv_at hl 0 rfl) ?_
  refine xg X hw (C := RX8) (T := TX8) (N := 27) (by decide +kernel) 0 rfl rfl 0 (by decide) rfl (by decide +kernel) rfl dX8_passAll_2 ?_
  refine xcV (n := 1) (As := [.ref th]) (rest := []) (wc := [(mo, .inr (5, [.ref th, .ref ea, .ref sa, .ref lk, .ref lq, .ref lz, .int lg, .int un, .int tm, .ref rb, .ref rn, .ref rt, .ref rk, .int kr, .ref cb, .ref cm, .ref cu, .ref ck, .int kc, .int se, .int tr, .ref mk, .ref nt, .ref kp, .ref iq, .int (nI o), .int 0])), (th, .inl (G.2.1, 61, .inl tf)), (kp, .inl (G.2.1, 366, .inl g))]) (wr := [(ea, .inl (G.2.1, 61, .inl em)), (sa, .inl (G.2.1, 61, .inl sk))]) X hw (c_X8_passRow_r l G mo th ea sa lk lq lz rb rn rt rk cb cm cu ck mk nt kp iq lg un tm kr kc se tr th o tf g (by omega)) (C := RX8) gX8_passAll_X8_passRow (q0 := 0) rfl rfl rfl ⟨rfl, rfl⟩ (by decide +kernel) ⟨by decide, by decide⟩ rfl hl.1 rfl (Nat.le_of_ble_eq_true rfl) dX8_passAll_5 ⟨by decide, by decide⟩ [0, 1, 4] [2, 3] rfl rfl rfl rfl (by decide) (fun r w1 H locs hp hw => ?_)
  obtain ⟨rfl, rfl⟩ := hp
  have hw := hw.sub (ws' := [(mo, .inr (5, [.ref th, .ref ea, .ref sa, .ref lk, .ref lq, .ref lz, .int lg, .int un, .int tm, .ref rb, .ref rn, .ref rt, .ref rk, .int kr, .ref cb, .ref cm, .ref cu, .ref ck, .int kc, .int se, .int tr, .ref mk, .ref nt, .ref kp, .ref iq, .int (nI (o + 61)), .int 0])), (th, .inl (G.2.1, 61, .inl (fa_fill (rdR g o) tf 61))), (ea, .inl (G.2.1, 61, .inl em)), (sa, .inl (G.2.1, 61, .inl sk)), (kp, .inl (G.2.1, 366, .inl g))]) [2, 3, 0, 1, 4] rfl rfl
  refine W.eq (g2 := F0 mt 8 ls []) rfl ?_
  refine lv_aload_n hx hb dX8_passAll_8 rfl (lv_at hl 0 rfl) ?_
  refine lv_aload_n hx hb dX8_passAll_9 rfl (lv_at hl 0 rfl) ?_
  refine xg X hw (C := RX8) (T := TX8) (N := 27) (by decide +kernel) 0 rfl rfl 1 (by decide) rfl (by decide +kernel) rfl dX8_passAll_10 ?_
  refine xcV (n := 1) (As := [.ref ea]) (rest := []) (wc := [(mo, .inr (5, [.ref th, .ref ea, .ref sa, .ref lk, .ref lq, .ref lz, .int lg, .int un, .int tm, .ref rb, .ref rn, .ref rt, .ref rk, .int kr, .ref cb, .ref cm, .ref cu, .ref ck, .int kc, .int se, .int tr, .ref mk, .ref nt, .ref kp, .ref iq, .int (nI (o + 61)), .int 0])), (ea, .inl (G.2.1, 61, .inl em)), (kp, .inl (G.2.1, 366, .inl g))]) (wr := [(th, .inl (G.2.1, 61, .inl (fa_fill (rdR g o) tf 61))), (sa, .inl (G.2.1, 61, .inl sk))]) X hw (c_X8_passRow_r l G mo th ea sa lk lq lz rb rn rt rk cb cm cu ck mk nt kp iq lg un tm kr kc se tr ea (o + 61) em g (by omega)) (C := RX8) gX8_passAll_X8_passRow (q0 := 0) rfl rfl rfl ⟨rfl, rfl⟩ (by decide +kernel) ⟨by decide, by decide⟩ rfl hl.1 rfl (Nat.le_of_ble_eq_true rfl) dX8_passAll_13 ⟨by decide, by decide⟩ [0, 2, 4] [1, 3] rfl rfl rfl rfl (by decide) (fun r w1 H locs hp hw => ?_)
  obtain ⟨rfl, rfl⟩ := hp
  have hw := hw.sub (ws' := [(mo, .inr (5, [.ref th, .ref ea, .ref sa, .ref lk, .ref lq, .ref lz, .int lg, .int un, .int tm, .ref rb, .ref rn, .ref rt, .ref rk, .int kr, .ref cb, .ref cm, .ref cu, .ref ck, .int kc, .int se, .int tr, .ref mk, .ref nt, .ref kp, .ref iq, .int (nI ((o + 61) + 61)), .int 0])), (th, .inl (G.2.1, 61, .inl (fa_fill (rdR g o) tf 61))), (ea, .inl (G.2.1, 61, .inl (fa_fill (rdR g (o + 61)) em 61))), (sa, .inl (G.2.1, 61, .inl sk)), (kp, .inl (G.2.1, 366, .inl g))]) [2, 0, 3, 1, 4] rfl rfl
  refine W.eq (g2 := F0 mt 16 ls []) rfl ?_
  refine lv_aload_n hx hb dX8_passAll_16 rfl (lv_at hl 0 rfl) ?_
  refine lv_aload_n hx hb dX8_passAll_17 rfl (lv_at hl 0 rfl) ?_
  refine xg X hw (C := RX8) (T := TX8) (N := 27) (by decide +kernel) 0 rfl rfl 2 (by decide) rfl (by decide +kernel) rfl dX8_passAll_18 ?_
  refine xcV (n := 1) (As := [.ref sa]) (rest := []) (wc := [(mo, .inr (5, [.ref th, .ref ea, .ref sa, .ref lk, .ref lq, .ref lz, .int lg, .int un, .int tm, .ref rb, .ref rn, .ref rt, .ref rk, .int kr, .ref cb, .ref cm, .ref cu, .ref ck, .int kc, .int se, .int tr, .ref mk, .ref nt, .ref kp, .ref iq, .int (nI ((o + 61) + 61)), .int 0])), (sa, .inl (G.2.1, 61, .inl sk)), (kp, .inl (G.2.1, 366, .inl g))]) (wr := [(th, .inl (G.2.1, 61, .inl (fa_fill (rdR g o) tf 61))), (ea, .inl (G.2.1, 61, .inl (fa_fill (rdR g (o + 61)) em 61)))]) X hw (c_X8_passRow_r l G mo th ea sa lk lq lz rb rn rt rk cb cm cu ck mk nt kp iq lg un tm kr kc se tr sa ((o + 61) + 61) sk g (by omega)) (C := RX8) gX8_passAll_X8_passRow (q0 := 0) rfl rfl rfl ⟨rfl, rfl⟩ (by decide +kernel) ⟨by decide, by decide⟩ rfl hl.1 rfl (Nat.le_of_ble_eq_true rfl) dX8_passAll_21 ⟨by decide, by decide⟩ [0, 3, 4] [1, 2] rfl rfl rfl rfl (by decide) (fun r w1 H locs hp hw => ?_)
  obtain ⟨rfl, rfl⟩ := hp
  have hw := hw.sub (ws' := [(mo, .inr (5, [.ref th, .ref ea, .ref sa, .ref lk, .ref lq, .ref lz, .int lg, .int un, .int tm, .ref rb, .ref rn, .ref rt, .ref rk, .int kr, .ref cb, .ref cm, .ref cu, .ref ck, .int kc, .int se, .int tr, .ref mk, .ref nt, .ref kp, .ref iq, .int (nI (((o + 61) + 61) + 61)), .int 0])), (th, .inl (G.2.1, 61, .inl (fa_fill (rdR g o) tf 61))), (ea, .inl (G.2.1, 61, .inl (fa_fill (rdR g (o + 61)) em 61))), (sa, .inl (G.2.1, 61, .inl (fa_fill (rdR g ((o + 61) + 61)) sk 61))), (kp, .inl (G.2.1, 366, .inl g))]) [2, 0, 1, 3, 4] rfl rfl
  refine W.eq (g2 := F0 mt 24 ls []) rfl ?_
  refine hret _ _ _ _ _ dX8_passAll_24 hw ?_
  exact ⟨rfl, rfl⟩

set_option maxHeartbeats 4000000 in
set_option maxRecDepth 100000 in
theorem c_X8_image (l : Launch) (G : GG) (mo : Nat) (th : Nat) (ea : Nat) (sa : Nat) (lk : Nat) (lq : Nat) (lz : Nat) (rb : Nat) (rn : Nat) (rt : Nat) (rk : Nat) (cb : Nat) (cm : Nat) (cu : Nat) (ck : Nat) (mk : Nat) (nt : Nat) (kp : Nat) (iq : Nat) (lg : Int32) (un : Int32) (tm : Int32) (kr : Int32) (kc : Int32) (se : Int32) (tr : Int32) (ka : Int32) (wr : Int32) (iqf : Nat → Int32) (tf : Nat → Int32) (em : Nat → Int32) (sk : Nat → Int32) (g : Nat → Int32) (x : Int32)  : CT l G yX8_image wsX8_image ({ frames := 2, cells := 0, slots := 0, locals := 42 } : Room) [.ref mo, .int x] [(mo, .inr (5, [.ref th, .ref ea, .ref sa, .ref lk, .ref lq, .ref lz, .int lg, .int un, .int tm, .ref rb, .ref rn, .ref rt, .ref rk, .int kr, .ref cb, .ref cm, .ref cu, .ref ck, .int kc, .int se, .int tr, .ref mk, .ref nt, .ref kp, .ref iq, .int ka, .int wr])), (th, .inl (G.2.1, 61, .inl tf)), (ea, .inl (G.2.1, 61, .inl em)), (sa, .inl (G.2.1, 61, .inl sk)), (kp, .inl (G.2.1, 366, .inl g)), (iq, .inl (G.2.2.1, 2, .inl iqf))] (fun r w => (inG x = false ∧ r = some (.int (-2)) ∧ w = [(mo, .inr (5, [.ref th, .ref ea, .ref sa, .ref lk, .ref lq, .ref lz, .int lg, .int un, .int tm, .ref rb, .ref rn, .ref rt, .ref rk, .int kr, .ref cb, .ref cm, .ref cu, .ref ck, .int kc, .int se, .int tr, .ref mk, .ref nt, .ref kp, .ref iq, .int ka, .int wr])), (th, .inl (G.2.1, 61, .inl tf)), (ea, .inl (G.2.1, 61, .inl em)), (sa, .inl (G.2.1, 61, .inl sk)), (kp, .inl (G.2.1, 366, .inl g)), (iq, .inl (G.2.2.1, 2, .inl iqf))]) ∨ (∃ k : Nat, k ≤ 1 ∧ x = nI k ∧ r = some (.int 1) ∧ w = [(mo, .inr (5, [.ref th, .ref ea, .ref sa, .ref lk, .ref lq, .ref lz, .int lg, .int un, .int tm, .ref rb, .ref rn, .ref rt, .ref rk, .int kr, .ref cb, .ref cm, .ref cu, .ref ck, .int kc, .int se, .int tr, .ref mk, .ref nt, .ref kp, .ref iq, .int (nI (183 * k + 61 + 61 + 61)), .int 1])), (th, .inl (G.2.1, 61, .inl tf)), (ea, .inl (G.2.1, 61, .inl em)), (sa, .inl (G.2.1, 61, .inl sk)), (kp, .inl (G.2.1, 366, .inl (cpy sk (cpy em (cpy tf g (183 * k) 61) (183 * k + 61) 61) (183 * k + 61 + 61) 61))), (iq, .inl (G.2.2.1, 2, .inl (upd iqf k 1)))])) 0 0 := by
  refine ct_i (cc := cX8_image) (maxL := 2) (by decide +kernel) rfl (Nat.le_of_ble_eq_true rfl) ?_
  intro p e s mt below meth c A Q X hw hret ls hl
  obtain ⟨hx, hb, -⟩ := id X
  have hl : lv_has ls 2 [(0, .ref mo), (1, .int x)] := hl
  refine lv_iload_n hx hb dX8_image_0 rfl (lv_at hl 1 rfl) ?_
  refine lv_i2l (v := x.toInt64) hx hb dX8_image_1 (by rfl) ?_
  refine lv_lconst (v := 0) hx hb dX8_image_2 (by decide) ?_
  refine lv_lconst (v := 1) hx hb dX8_image_3 (by decide) ?_
  refine xcP (n := 3) (As := [.long x.toInt64, .long 0, .long 1]) (rest := []) X hw (c_X8_in l G x.toInt64 0 1 ) gX8_image_X8_in rfl ⟨rfl, rfl⟩ (by decide +kernel) ⟨by decide, by decide⟩ rfl hl.1 rfl (Nat.le_of_ble_eq_true rfl) dX8_image_4 ⟨by decide, by decide⟩ (fun r w1 H locs hp hw => ?_)
  obtain rfl := hp
  refine W.eq (g2 := F0 mt 7 ls [.int (bi (inJ x.toInt64 0 1))]) rfl ?_
  refine x_cvi (y := bi (inG x)) (by rw [inJ_G]) ?_
  refine lv_if_ne (tgt := 13) hx hb dX8_image_7 (by decide) (fun c7 => ?_) (fun c7 => ?_)
  · have hi := bi_t c7
    obtain ⟨k, hk, rfl⟩ := inG_of hi
    refine lv_aload_n hx hb dX8_image_13 rfl (lv_at hl 0 rfl) ?_
    refine lv_sipush (v := 183) hx hb dX8_image_14 (by decide) ?_
    refine lv_iload_n hx hb dX8_image_17 rfl (lv_at hl 1 rfl) ?_
    refine lv_imul hx hb dX8_image_18 ?_
    refine x_cvi (y := nI (183 * k)) (by exact pk_mul 183 k) ?_
    refine xp X hw (C := RX8) (ty := .int) (T := TX8) (N := 27) (by decide +kernel) tyX8 tyX8_ok nmX8 0 rfl rfl 25 (by decide) rfl (by decide +kernel) rfl (by decide +kernel) rfl rfl (Nat.le_of_ble_eq_true rfl) dX8_image_19 (ws' := [(mo, .inr (5, [.ref th, .ref ea, .ref sa, .ref lk, .ref lq, .ref lz, .int lg, .int un, .int tm, .ref rb, .ref rn, .ref rt, .ref rk, .int kr, .ref cb, .ref cm, .ref cu, .ref ck, .int kc, .int se, .int tr, .ref mk, .ref nt, .ref kp, .ref iq, .int (nI (183 * k)), .int wr])), (th, .inl (G.2.1, 61, .inl tf)), (ea, .inl (G.2.1, 61, .inl em)), (sa, .inl (G.2.1, 61, .inl sk)), (kp, .inl (G.2.1, 366, .inl g)), (iq, .inl (G.2.2.1, 2, .inl iqf))]) rfl (fun H locs hw => ?_)
    refine lv_aload_n hx hb dX8_image_22 rfl (lv_at hl 0 rfl) ?_
    refine lv_iconst (v := 1) hx hb dX8_image_23 (by decide) ?_
    refine xp X hw (C := RX8) (ty := .boolean) (T := TX8) (N := 27) (by decide +kernel) tyX8 tyX8_ok nmX8 0 rfl rfl 26 (by decide) rfl (by decide +kernel) rfl (by decide +kernel) rfl (by decide) (Nat.le_of_ble_eq_true rfl) dX8_image_24 (ws' := [(mo, .inr (5, [.ref th, .ref ea, .ref sa, .ref lk, .ref lq, .ref lz, .int lg, .int un, .int tm, .ref rb, .ref rn, .ref rt, .ref rk, .int kr, .ref cb, .ref cm, .ref cu, .ref ck, .int kc, .int se, .int tr, .ref mk, .ref nt, .ref kp, .ref iq, .int (nI (183 * k)), .int 1])), (th, .inl (G.2.1, 61, .inl tf)), (ea, .inl (G.2.1, 61, .inl em)), (sa, .inl (G.2.1, 61, .inl sk)), (kp, .inl (G.2.1, 366, .inl g)), (iq, .inl (G.2.2.1, 2, .inl iqf))]) rfl (fun H locs hw => ?_)
    refine lv_aload_n hx hb dX8_image_27 rfl (lv_at hl 0 rfl) ?_
    refine xcV (n := 0) (As := []) (rest := []) (wc := [(mo, .inr (5, [.ref th, .ref ea, .ref sa, .ref lk, .ref lq, .ref lz, .int lg, .int un, .int tm, .ref rb, .ref rn, .ref rt, .ref rk, .int kr, .ref cb, .ref cm, .ref cu, .ref ck, .int kc, .int se, .int tr, .ref mk, .ref nt, .ref kp, .ref iq, .int (nI (183 * k)), .int 1])), (th, .inl (G.2.1, 61, .inl tf)), (ea, .inl (G.2.1, 61, .inl em)), (sa, .inl (G.2.1, 61, .inl sk)), (kp, .inl (G.2.1, 366, .inl g))]) (wr := [(iq, .inl (G.2.2.1, 2, .inl iqf))]) X hw (c_X8_passAll_w l G mo th ea sa lk lq lz rb rn rt rk cb cm cu ck mk nt kp iq lg un tm kr kc se tr (183 * k) tf em sk g (by omega)) (C := RX8) gX8_image_X8_passAll (q0 := 0) rfl rfl rfl ⟨rfl, rfl⟩ (by decide +kernel) ⟨by decide, by decide⟩ rfl hl.1 rfl (Nat.le_of_ble_eq_true rfl) dX8_image_28 ⟨by decide, by decide⟩ [0, 1, 2, 3, 4] [5] rfl rfl rfl rfl (by decide) (fun r w1 H locs hp hw => ?_)
    obtain ⟨rfl, rfl⟩ := hp
    have hw := hw.sub (ws' := [(mo, .inr (5, [.ref th, .ref ea, .ref sa, .ref lk, .ref lq, .ref lz, .int lg, .int un, .int tm, .ref rb, .ref rn, .ref rt, .ref rk, .int kr, .ref cb, .ref cm, .ref cu, .ref ck, .int kc, .int se, .int tr, .ref mk, .ref nt, .ref kp, .ref iq, .int (nI ((183 * k) + 61 + 61 + 61)), .int 1])), (th, .inl (G.2.1, 61, .inl tf)), (ea, .inl (G.2.1, 61, .inl em)), (sa, .inl (G.2.1, 61, .inl sk)), (kp, .inl (G.2.1, 366, .inl (cpy sk (cpy em (cpy tf g (183 * k) 61) ((183 * k) + 61) 61) ((183 * k) + 61 + 61) 61))), (iq, .inl (G.2.2.1, 2, .inl iqf))]) [1, 2, 3, 4, 5, 0] rfl rfl
    refine W.eq (g2 := F0 mt 31 ls []) rfl ?_
    refine lv_aload_n hx hb dX8_image_31 rfl (lv_at hl 0 rfl) ?_
    refine xg X hw (C := RX8) (T := TX8) (N := 27) (by decide +kernel) 0 rfl rfl 24 (by decide) rfl (by decide +kernel) rfl dX8_image_32 ?_
    refine lv_iload_n hx hb dX8_image_35 rfl (lv_at hl 1 rfl) ?_
    refine lv_iconst (v := 1) hx hb dX8_image_36 (by decide) ?_
    refine xzs X hw 5 rfl (j := k) (rfl) (by omega) (by decide) dX8_image_37 (ws' := [(mo, .inr (5, [.ref th, .ref ea, .ref sa, .ref lk, .ref lq, .ref lz, .int lg, .int un, .int tm, .ref rb, .ref rn, .ref rt, .ref rk, .int kr, .ref cb, .ref cm, .ref cu, .ref ck, .int kc, .int se, .int tr, .ref mk, .ref nt, .ref kp, .ref iq, .int (nI ((183 * k) + 61 + 61 + 61)), .int 1])), (th, .inl (G.2.1, 61, .inl tf)), (ea, .inl (G.2.1, 61, .inl em)), (sa, .inl (G.2.1, 61, .inl sk)), (kp, .inl (G.2.1, 366, .inl (cpy sk (cpy em (cpy tf g (183 * k) 61) ((183 * k) + 61) 61) ((183 * k) + 61 + 61) 61))), (iq, .inl (G.2.2.1, 2, .inl (upd iqf k (vp_nar .boolean 1))))]) rfl (fun H locs hw => ?_)
    have hw : WS G A s.heap H locs [(mo, .inr (5, [.ref th, .ref ea, .ref sa, .ref lk, .ref lq, .ref lz, .int lg, .int un, .int tm, .ref rb, .ref rn, .ref rt, .ref rk, .int kr, .ref cb, .ref cm, .ref cu, .ref ck, .int kc, .int se, .int tr, .ref mk, .ref nt, .ref kp, .ref iq, .int (nI ((183 * k) + 61 + 61 + 61)), .int 1])), (th, .inl (G.2.1, 61, .inl tf)), (ea, .inl (G.2.1, 61, .inl em)), (sa, .inl (G.2.1, 61, .inl sk)), (kp, .inl (G.2.1, 366, .inl (cpy sk (cpy em (cpy tf g (183 * k) 61) ((183 * k) + 61) 61) ((183 * k) + 61 + 61) 61))), (iq, .inl (G.2.2.1, 2, .inl (upd iqf k 1)))] := hw
    refine lv_iconst (v := 1) hx hb dX8_image_38 (by decide) ?_
    refine hret _ _ _ _ _ _ dX8_image_39 hw ?_
    exact Or.inr ⟨k, hk, rfl, rfl, rfl⟩
  · have hi := bi_f c7
    refine lv_bipush (v := (-2)) hx hb dX8_image_10 (by decide) ?_
    refine hret _ _ _ _ _ _ dX8_image_12 hw ?_
    exact Or.inl ⟨hi, rfl, rfl⟩

set_option maxHeartbeats 4000000 in
set_option maxRecDepth 100000 in
theorem c_X8_restore (l : Launch) (G : GG) (mo : Nat) (th : Nat) (ea : Nat) (sa : Nat) (lk : Nat) (lq : Nat) (lz : Nat) (rb : Nat) (rn : Nat) (rt : Nat) (rk : Nat) (cb : Nat) (cm : Nat) (cu : Nat) (ck : Nat) (mk : Nat) (nt : Nat) (kp : Nat) (iq : Nat) (lg : Int32) (un : Int32) (tm : Int32) (kr : Int32) (kc : Int32) (se : Int32) (tr : Int32) (ka : Int32) (wr : Int32) (iqf : Nat → Int32) (tf : Nat → Int32) (em : Nat → Int32) (sk : Nat → Int32) (g : Nat → Int32) (x : Int32)  : CT l G yX8_restore wsX8_restore ({ frames := 2, cells := 0, slots := 0, locals := 42 } : Room) [.ref mo, .int x] [(mo, .inr (5, [.ref th, .ref ea, .ref sa, .ref lk, .ref lq, .ref lz, .int lg, .int un, .int tm, .ref rb, .ref rn, .ref rt, .ref rk, .int kr, .ref cb, .ref cm, .ref cu, .ref ck, .int kc, .int se, .int tr, .ref mk, .ref nt, .ref kp, .ref iq, .int ka, .int wr])), (th, .inl (G.2.1, 61, .inl tf)), (ea, .inl (G.2.1, 61, .inl em)), (sa, .inl (G.2.1, 61, .inl sk)), (kp, .inl (G.2.1, 366, .inl g)), (iq, .inl (G.2.2.1, 2, .inl iqf))] (fun r w => (inG x = false ∧ r = some (.int (-2)) ∧ w = [(mo, .inr (5, [.ref th, .ref ea, .ref sa, .ref lk, .ref lq, .ref lz, .int lg, .int un, .int tm, .ref rb, .ref rn, .ref rt, .ref rk, .int kr, .ref cb, .ref cm, .ref cu, .ref ck, .int kc, .int se, .int tr, .ref mk, .ref nt, .ref kp, .ref iq, .int ka, .int wr])), (th, .inl (G.2.1, 61, .inl tf)), (ea, .inl (G.2.1, 61, .inl em)), (sa, .inl (G.2.1, 61, .inl sk)), (kp, .inl (G.2.1, 366, .inl g)), (iq, .inl (G.2.2.1, 2, .inl iqf))]) ∨ (∃ k : Nat, k ≤ 1 ∧ x = nI k ∧ ((iqf k = 0 ∧ r = some (.int (-3)) ∧ w = [(mo, .inr (5, [.ref th, .ref ea, .ref sa, .ref lk, .ref lq, .ref lz, .int lg, .int un, .int tm, .ref rb, .ref rn, .ref rt, .ref rk, .int kr, .ref cb, .ref cm, .ref cu, .ref ck, .int kc, .int se, .int tr, .ref mk, .ref nt, .ref kp, .ref iq, .int ka, .int wr])), (th, .inl (G.2.1, 61, .inl tf)), (ea, .inl (G.2.1, 61, .inl em)), (sa, .inl (G.2.1, 61, .inl sk)), (kp, .inl (G.2.1, 366, .inl g)), (iq, .inl (G.2.2.1, 2, .inl iqf))]) ∨ (¬ iqf k = 0 ∧ r = some (.int 1) ∧ w = [(mo, .inr (5, [.ref th, .ref ea, .ref sa, .ref lk, .ref lq, .ref lz, .int (nI 0), .int un, .int tm, .ref rb, .ref rn, .ref rt, .ref rk, .int kr, .ref cb, .ref cm, .ref cu, .ref ck, .int kc, .int se, .int tr, .ref mk, .ref nt, .ref kp, .ref iq, .int (nI (183 * k + 61 + 61 + 61)), .int 0])), (th, .inl (G.2.1, 61, .inl (fa_fill (rdR g (183 * k)) tf 61))), (ea, .inl (G.2.1, 61, .inl (fa_fill (rdR g (183 * k + 61)) em 61))), (sa, .inl (G.2.1, 61, .inl (fa_fill (rdR g (183 * k + 61 + 61)) sk 61))), (kp, .inl (G.2.1, 366, .inl g)), (iq, .inl (G.2.2.1, 2, .inl iqf))])))) 0 0 := by
  refine ct_i (cc := cX8_restore) (maxL := 2) (by decide +kernel) rfl (Nat.le_of_ble_eq_true rfl) ?_
  intro p e s mt below meth c A Q X hw hret ls hl
  obtain ⟨hx, hb, -⟩ := id X
  have hl : lv_has ls 2 [(0, .ref mo), (1, .int x)] := hl
  refine lv_iload_n hx hb dX8_restore_0 rfl (lv_at hl 1 rfl) ?_
  refine lv_i2l (v := x.toInt64) hx hb dX8_restore_1 (by rfl) ?_
  refine lv_lconst (v := 0) hx hb dX8_restore_2 (by decide) ?_
  refine lv_lconst (v := 1) hx hb dX8_restore_3 (by decide) ?_
  refine xcP (n := 3) (As := [.long x.toInt64, .long 0, .long 1]) (rest := []) X hw (c_X8_in l G x.toInt64 0 1 ) gX8_restore_X8_in rfl ⟨rfl, rfl⟩ (by decide +kernel) ⟨by decide, by decide⟩ rfl hl.1 rfl (Nat.le_of_ble_eq_true rfl) dX8_restore_4 ⟨by decide, by decide⟩ (fun r w1 H locs hp hw => ?_)
  obtain rfl := hp
  refine W.eq (g2 := F0 mt 7 ls [.int (bi (inJ x.toInt64 0 1))]) rfl ?_
  refine x_cvi (y := bi (inG x)) (by rw [inJ_G]) ?_
  refine lv_if_ne (tgt := 13) hx hb dX8_restore_7 (by decide) (fun c7 => ?_) (fun c7 => ?_)
  · have hi := bi_t c7
    obtain ⟨k, hk, rfl⟩ := inG_of hi
    refine lv_aload_n hx hb dX8_restore_13 rfl (lv_at hl 0 rfl) ?_
    refine xg X hw (C := RX8) (T := TX8) (N := 27) (by decide +kernel) 0 rfl rfl 24 (by decide) rfl (by decide +kernel) rfl dX8_restore_14 ?_
    refine lv_iload_n hx hb dX8_restore_17 rfl (lv_at hl 1 rfl) ?_
    refine xza X hw 5 rfl (j := k) (rfl) (by omega) (by decide) dX8_restore_18 ?_
    refine lv_if_ne (tgt := 25) hx hb dX8_restore_19 (by decide) (fun c19 => ?_) (fun c19 => ?_)
    · refine lv_aload_n hx hb dX8_restore_25 rfl (lv_at hl 0 rfl) ?_
      refine lv_sipush (v := 183) hx hb dX8_restore_26 (by decide) ?_
      refine lv_iload_n hx hb dX8_restore_29 rfl (lv_at hl 1 rfl) ?_
      refine lv_imul hx hb dX8_restore_30 ?_
      refine x_cvi (y := nI (183 * k)) (by exact pk_mul 183 k) ?_
      refine xp X hw (C := RX8) (ty := .int) (T := TX8) (N := 27) (by decide +kernel) tyX8 tyX8_ok nmX8 0 rfl rfl 25 (by decide) rfl (by decide +kernel) rfl (by decide +kernel) rfl rfl (Nat.le_of_ble_eq_true rfl) dX8_restore_31 (ws' := [(mo, .inr (5, [.ref th, .ref ea, .ref sa, .ref lk, .ref lq, .ref lz, .int lg, .int un, .int tm, .ref rb, .ref rn, .ref rt, .ref rk, .int kr, .ref cb, .ref cm, .ref cu, .ref ck, .int kc, .int se, .int tr, .ref mk, .ref nt, .ref kp, .ref iq, .int (nI (183 * k)), .int wr])), (th, .inl (G.2.1, 61, .inl tf)), (ea, .inl (G.2.1, 61, .inl em)), (sa, .inl (G.2.1, 61, .inl sk)), (kp, .inl (G.2.1, 366, .inl g)), (iq, .inl (G.2.2.1, 2, .inl iqf))]) rfl (fun H locs hw => ?_)
      refine lv_aload_n hx hb dX8_restore_34 rfl (lv_at hl 0 rfl) ?_
      refine lv_iconst (v := 0) hx hb dX8_restore_35 (by decide) ?_
      refine xp X hw (C := RX8) (ty := .boolean) (T := TX8) (N := 27) (by decide +kernel) tyX8 tyX8_ok nmX8 0 rfl rfl 26 (by decide) rfl (by decide +kernel) rfl (by decide +kernel) rfl (by decide) (Nat.le_of_ble_eq_true rfl) dX8_restore_36 (ws' := [(mo, .inr (5, [.ref th, .ref ea, .ref sa, .ref lk, .ref lq, .ref lz, .int lg, .int un, .int tm, .ref rb, .ref rn, .ref rt, .ref rk, .int kr, .ref cb, .ref cm, .ref cu, .ref ck, .int kc, .int se, .int tr, .ref mk, .ref nt, .ref kp, .ref iq, .int (nI (183 * k)), .int 0])), (th, .inl (G.2.1, 61, .inl tf)), (ea, .inl (G.2.1, 61, .inl em)), (sa, .inl (G.2.1, 61, .inl sk)), (kp, .inl (G.2.1, 366, .inl g)), (iq, .inl (G.2.2.1, 2, .inl iqf))]) rfl (fun H locs hw => ?_)
      refine lv_aload_n hx hb dX8_restore_39 rfl (lv_at hl 0 rfl) ?_
      refine xcV (n := 0) (As := []) (rest := []) (wc := [(mo, .inr (5, [.ref th, .ref ea, .ref sa, .ref lk, .ref lq, .ref lz, .int lg, .int un, .int tm, .ref rb, .ref rn, .ref rt, .ref rk, .int kr, .ref cb, .ref cm, .ref cu, .ref ck, .int kc, .int se, .int tr, .ref mk, .ref nt, .ref kp, .ref iq, .int (nI (183 * k)), .int 0])), (th, .inl (G.2.1, 61, .inl tf)), (ea, .inl (G.2.1, 61, .inl em)), (sa, .inl (G.2.1, 61, .inl sk)), (kp, .inl (G.2.1, 366, .inl g))]) (wr := [(iq, .inl (G.2.2.1, 2, .inl iqf))]) X hw (c_X8_passAll_r l G mo th ea sa lk lq lz rb rn rt rk cb cm cu ck mk nt kp iq lg un tm kr kc se tr (183 * k) tf em sk g (by omega)) (C := RX8) gX8_restore_X8_passAll (q0 := 0) rfl rfl rfl ⟨rfl, rfl⟩ (by decide +kernel) ⟨by decide, by decide⟩ rfl hl.1 rfl (Nat.le_of_ble_eq_true rfl) dX8_restore_40 ⟨by decide, by decide⟩ [0, 1, 2, 3, 4] [5] rfl rfl rfl rfl (by decide) (fun r w1 H locs hp hw => ?_)
      obtain ⟨rfl, rfl⟩ := hp
      have hw := hw.sub (ws' := [(mo, .inr (5, [.ref th, .ref ea, .ref sa, .ref lk, .ref lq, .ref lz, .int lg, .int un, .int tm, .ref rb, .ref rn, .ref rt, .ref rk, .int kr, .ref cb, .ref cm, .ref cu, .ref ck, .int kc, .int se, .int tr, .ref mk, .ref nt, .ref kp, .ref iq, .int (nI ((183 * k) + 61 + 61 + 61)), .int 0])), (th, .inl (G.2.1, 61, .inl (fa_fill (rdR g (183 * k)) tf 61))), (ea, .inl (G.2.1, 61, .inl (fa_fill (rdR g ((183 * k) + 61)) em 61))), (sa, .inl (G.2.1, 61, .inl (fa_fill (rdR g ((183 * k) + 61 + 61)) sk 61))), (kp, .inl (G.2.1, 366, .inl g)), (iq, .inl (G.2.2.1, 2, .inl iqf))]) [1, 2, 3, 4, 5, 0] rfl rfl
      refine W.eq (g2 := F0 mt 43 ls []) rfl ?_
      refine lv_aload_n hx hb dX8_restore_43 rfl (lv_at hl 0 rfl) ?_
      refine lv_iconst (v := 0) hx hb dX8_restore_44 (by decide) ?_
      refine x_cvi (y := nI 0) (by rfl) ?_
      refine xp X hw (C := RX8) (ty := .int) (T := TX8) (N := 27) (by decide +kernel) tyX8 tyX8_ok nmX8 0 rfl rfl 6 (by decide) rfl (by decide +kernel) rfl (by decide +kernel) rfl rfl (Nat.le_of_ble_eq_true rfl) dX8_restore_45 (ws' := [(mo, .inr (5, [.ref th, .ref ea, .ref sa, .ref lk, .ref lq, .ref lz, .int (nI 0), .int un, .int tm, .ref rb, .ref rn, .ref rt, .ref rk, .int kr, .ref cb, .ref cm, .ref cu, .ref ck, .int kc, .int se, .int tr, .ref mk, .ref nt, .ref kp, .ref iq, .int (nI ((183 * k) + 61 + 61 + 61)), .int 0])), (th, .inl (G.2.1, 61, .inl (fa_fill (rdR g (183 * k)) tf 61))), (ea, .inl (G.2.1, 61, .inl (fa_fill (rdR g ((183 * k) + 61)) em 61))), (sa, .inl (G.2.1, 61, .inl (fa_fill (rdR g ((183 * k) + 61 + 61)) sk 61))), (kp, .inl (G.2.1, 366, .inl g)), (iq, .inl (G.2.2.1, 2, .inl iqf))]) rfl (fun H locs hw => ?_)
      refine lv_iconst (v := 1) hx hb dX8_restore_48 (by decide) ?_
      refine hret _ _ _ _ _ _ dX8_restore_49 hw ?_
      exact Or.inr ⟨k, hk, rfl, Or.inr ⟨c19, rfl, rfl⟩⟩
    · refine lv_bipush (v := (-3)) hx hb dX8_restore_22 (by decide) ?_
      refine hret _ _ _ _ _ _ dX8_restore_24 hw ?_
      exact Or.inr ⟨k, hk, rfl, Or.inl ⟨c19, rfl, rfl⟩⟩
  · have hi := bi_f c7
    refine lv_bipush (v := (-2)) hx hb dX8_restore_10 (by decide) ?_
    refine hret _ _ _ _ _ _ dX8_restore_12 hw ?_
    exact Or.inl ⟨hi, rfl, rfl⟩
