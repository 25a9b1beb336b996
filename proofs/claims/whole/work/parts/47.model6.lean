set_option maxHeartbeats 4000000 in
set_option maxRecDepth 100000 in
theorem c_X8_isNew (l : Launch) (G : GG) (mo : Nat) (th : Nat) (ea : Nat) (sa : Nat) (lk : Nat) (lq : Nat) (lz : Nat) (rb : Nat) (rn : Nat) (rt : Nat) (rk : Nat) (cb : Nat) (cm : Nat) (cu : Nat) (ck : Nat) (mk : Nat) (nt : Nat) (kp : Nat) (iq : Nat) (lg : Int32) (un : Int32) (tm : Int32) (kr : Int32) (kc : Int32) (se : Int32) (tr : Int32) (ka : Int32) (wr : Int32) (mf : Nat → Int32) (ms : List Nat) (d : Nat) (mark : Nat) (hd : ms.length = d) (hd2 : d ≤ 12) (hM : okM ms mf) (hS : srt ms) (hmm : ∀ y ∈ ms, y < mark) (hmk : mark ≤ 60) : CT l G yX8_isNew wsX8_isNew ({ frames := 0, cells := 0, slots := 0, locals := 0 } : Room) [.ref mo, .int (nI d), .int (nI mark)] [(mo, .inr (5, [.ref th, .ref ea, .ref sa, .ref lk, .ref lq, .ref lz, .int lg, .int un, .int tm, .ref rb, .ref rn, .ref rt, .ref rk, .int kr, .ref cb, .ref cm, .ref cu, .ref ck, .int kc, .int se, .int tr, .ref mk, .ref nt, .ref kp, .ref iq, .int ka, .int wr])), (mk, .inl (G.2.1, 12, .inl mf))] (fun r w => r = some (.int (bi (decide (bkL ms * 2 ^ (mark - ms.headD 0) &&& lnL ms = 0)))) ∧ w = [(mo, .inr (5, [.ref th, .ref ea, .ref sa, .ref lk, .ref lq, .ref lz, .int lg, .int un, .int tm, .ref rb, .ref rn, .ref rt, .ref rk, .int kr, .ref cb, .ref cm, .ref cu, .ref ck, .int kc, .int se, .int tr, .ref mk, .ref nt, .ref kp, .ref iq, .int ka, .int wr])), (mk, .inl (G.2.1, 12, .inl mf))]) 0 0 := by
  refine ct_z (cc := cX8_isNew) (maxL := 7) (by decide +kernel) rfl (Nat.le_of_ble_eq_true rfl) ?_
  intro p e s mt below meth c A Q X hw hret ls hl
  obtain ⟨hx, hb, -⟩ := id X
  have hl : lv_has ls 7 [(0, .ref mo), (1, .int (nI d)), (2, .int (nI mark))] := hl
  refine lv_iconst (v := 1) hx hb dX8_isNew_0 (by decide) ?_
  refine x_cvi (y := bi true) (by rfl) ?_
  refine lv_istore_n (lv' := [(3, .int (bi true)), (0, .ref mo), (1, .int (nI d)), (2, .int (nI mark))]) hx hb dX8_isNew_1 rfl hl (by decide) rfl (fun ls hl => ?_)
  refine lv_iconst (v := 0) hx hb dX8_isNew_2 (by decide) ?_
  refine x_cvi (y := nI 0) (by rfl) ?_
  refine lv_istore (lv' := [(4, .int (nI 0)), (3, .int (bi true)), (0, .ref mo), (1, .int (nI d)), (2, .int (nI mark))]) hx hb dX8_isNew_3 hl (by decide) rfl (fun ls hl => ?_)
  have lp5 : ∀ (fu : Nat) (u : Nat) (b1 : Bool) (H : Heap) (locs : List Loc) (ls : Array Slot), 13 - u < fu → (u ≤ d) → (b1 = al (nwA ms mark) u) → WS G A s.heap H locs [(mo, .inr (5, [.ref th, .ref ea, .ref sa, .ref lk, .ref lq, .ref lz, .int lg, .int un, .int tm, .ref rb, .ref rn, .ref rt, .ref rk, .int kr, .ref cb, .ref cm, .ref cu, .ref ck, .int kc, .int se, .int tr, .ref mk, .ref nt, .ref kp, .ref iq, .int ka, .int wr])), (mk, .inl (G.2.1, 12, .inl mf))] → lv_has ls 7 [(0, .ref mo), (1, .int (nI d)), (2, .int (nI mark)), (3, .int (bi b1)), (4, .int (nI u))] → W p l e ({ frames := 0, cells := 0, slots := 0, locals := 0 } : Room) s mt ([.ref mo, .int (nI d), .int (nI mark)] : List Value).toArray below meth c H locs 0 0 Q (F0 mt 5 ls []) := by
    intro fu
    induction fu with
    | zero =>
      intro u b1 H locs ls hmu
      exact absurd hmu (Nat.not_lt_zero _)
    | succ fu ih5 =>
      intro u b1 H locs ls hmu5 hu hb1 hw hl
      refine lv_iload hx hb dX8_isNew_5 (lv_at hl 4 rfl) ?_
      refine lv_iload_n hx hb dX8_isNew_7 rfl (lv_at hl 1 rfl) ?_
      refine lv_icmp_ge (tgt := 85) hx hb dX8_isNew_8 (by decide) (fun c8 => ?_) (fun c8 => ?_)
      · have hk2 : d ≤ u := i_le (by omega) (by omega) c8
        refine lv_iload_n hx hb dX8_isNew_85 rfl (lv_at hl 3 rfl) ?_
        refine hret _ _ _ _ _ _ dX8_isNew_86 hw (by first | exact bi_nar _ | decide) ?_
        exact ⟨congrArg (fun z => some (Value.int z)) (by rw [hb1, show u = ms.length by omega, nw_eq hS hmm]), rfl⟩
      · have hk2 : u < d := i_nle (by omega) (by omega) c8
        refine lv_iconst (v := 0) hx hb dX8_isNew_11 (by decide) ?_
        refine x_cvi (y := nI 0) (by rfl) ?_
        refine lv_istore (lv' := [(5, .int (nI 0)), (0, .ref mo), (1, .int (nI d)), (2, .int (nI mark)), (3, .int (bi b1)), (4, .int (nI u))]) hx hb dX8_isNew_12 hl (by decide) rfl (fun ls hl => ?_)
        have lp14 : ∀ (fu : Nat) (v1 : Nat) (b2 : Bool) (H : Heap) (locs : List Loc) (ls : Array Slot), 13 - v1 < fu → (v1 ≤ d) → (b2 = (b1 && al (fun f => al (nwP ms mark u f) f) v1)) → WS G A s.heap H locs [(mo, .inr (5, [.ref th, .ref ea, .ref sa, .ref lk, .ref lq, .ref lz, .int lg, .int un, .int tm, .ref rb, .ref rn, .ref rt, .ref rk, .int kr, .ref cb, .ref cm, .ref cu, .ref ck, .int kc, .int se, .int tr, .ref mk, .ref nt, .ref kp, .ref iq, .int ka, .int wr])), (mk, .inl (G.2.1, 12, .inl mf))] → lv_has ls 7 [(0, .ref mo), (1, .int (nI d)), (2, .int (nI mark)), (3, .int (bi b2)), (4, .int (nI u)), (5, .int (nI v1))] → W p l e ({ frames := 0, cells := 0, slots := 0, locals := 0 } : Room) s mt ([.ref mo, .int (nI d), .int (nI mark)] : List Value).toArray below meth c H locs 0 0 Q (F0 mt 14 ls []) := by
          intro fu
          induction fu with
          | zero =>
            intro v1 b2 H locs ls hmu
            exact absurd hmu (Nat.not_lt_zero _)
          | succ fu ih14 =>
            intro v1 b2 H locs ls hmu14 hv hb2 hw hl
            refine lv_iload hx hb dX8_isNew_14 (lv_at hl 5 rfl) ?_
            refine lv_iload_n hx hb dX8_isNew_16 rfl (lv_at hl 1 rfl) ?_
            refine lv_icmp_ge (tgt := 79) hx hb dX8_isNew_17 (by decide) (fun c17 => ?_) (fun c17 => ?_)
            · have hk3 : d ≤ v1 := i_le (by omega) (by omega) c17
              refine lv_iinc (v := nI (u + 1)) (lv' := [(4, .int (nI (u + 1))), (0, .ref mo), (1, .int (nI d)), (2, .int (nI mark)), (3, .int (bi b2)), (5, .int (nI v1))]) hx hb dX8_isNew_79 hl (k := 4) rfl (by exact nI_1 _) (by decide) rfl (fun ls hl => ?_)
              refine lv_goto (tgt := 5) hx hb dX8_isNew_82 (by decide) ?_
              exact ih5 (u + 1) b2 _ _ _ (by omega) (by omega) (by rw [al_s, hb2, hb1, show v1 = ms.length by omega]; rfl) hw (lv_sub hl [1, 2, 3, 4, 0] rfl)
            · have hk3 : v1 < d := i_nle (by omega) (by omega) c17
              refine lv_iconst (v := 0) hx hb dX8_isNew_20 (by decide) ?_
              refine x_cvi (y := nI 0) (by rfl) ?_
              refine lv_istore (lv' := [(6, .int (nI 0)), (0, .ref mo), (1, .int (nI d)), (2, .int (nI mark)), (3, .int (bi b2)), (4, .int (nI u)), (5, .int (nI v1))]) hx hb dX8_isNew_21 hl (by decide) rfl (fun ls hl => ?_)
              have lp23 : ∀ (fu : Nat) (g1 : Nat) (b3 : Bool) (H : Heap) (locs : List Loc) (ls : Array Slot), 13 - g1 < fu → (g1 ≤ v1) → (b3 = (b2 && al (nwP ms mark u v1) g1)) → WS G A s.heap H locs [(mo, .inr (5, [.ref th, .ref ea, .ref sa, .ref lk, .ref lq, .ref lz, .int lg, .int un, .int tm, .ref rb, .ref rn, .ref rt, .ref rk, .int kr, .ref cb, .ref cm, .ref cu, .ref ck, .int kc, .int se, .int tr, .ref mk, .ref nt, .ref kp, .ref iq, .int ka, .int wr])), (mk, .inl (G.2.1, 12, .inl mf))] → lv_has ls 7 [(0, .ref mo), (1, .int (nI d)), (2, .int (nI mark)), (3, .int (bi b3)), (4, .int (nI u)), (5, .int (nI v1)), (6, .int (nI g1))] → W p l e ({ frames := 0, cells := 0, slots := 0, locals := 0 } : Room) s mt ([.ref mo, .int (nI d), .int (nI mark)] : List Value).toArray below meth c H locs 0 0 Q (F0 mt 23 ls []) := by
                intro fu
                induction fu with
                | zero =>
                  intro g1 b3 H locs ls hmu
                  exact absurd hmu (Nat.not_lt_zero _)
                | succ fu ih23 =>
                  intro g1 b3 H locs ls hmu23 hg hb3 hw hl
                  refine lv_iload hx hb dX8_isNew_23 (lv_at hl 6 rfl) ?_
                  refine lv_iload hx hb dX8_isNew_25 (lv_at hl 5 rfl) ?_
                  refine lv_icmp_ge (tgt := 73) hx hb dX8_isNew_27 (by decide) (fun c27 => ?_) (fun c27 => ?_)
                  · have hk4 : v1 ≤ g1 := i_le (by omega) (by omega) c27
                    refine lv_iinc (v := nI (v1 + 1)) (lv' := [(5, .int (nI (v1 + 1))), (0, .ref mo), (1, .int (nI d)), (2, .int (nI mark)), (3, .int (bi b3)), (4, .int (nI u)), (6, .int (nI g1))]) hx hb dX8_isNew_73 hl (k := 5) rfl (by exact nI_1 _) (by decide) rfl (fun ls hl => ?_)
                    refine lv_goto (tgt := 14) hx hb dX8_isNew_76 (by decide) ?_
                    exact ih14 (v1 + 1) b3 _ _ _ (by omega) (by omega) (by rw [al_s, hb3, hb2, Bool.and_assoc, show g1 = v1 by omega]) hw (lv_sub hl [1, 2, 3, 4, 5, 0] rfl)
                  · have hk4 : g1 < v1 := i_nle (by omega) (by omega) c27
                    have ho1 := hmm _ (at_mem ms v1 (by omega))
                    refine lv_iload_n hx hb dX8_isNew_30 rfl (lv_at hl 3 rfl) ?_
                    refine lv_if_eq (tgt := 65) hx hb dX8_isNew_31 (by decide) (fun c31 => ?_) (fun c31 => ?_)
                    · have h31 := bi_f c31
                      refine lv_iconst (v := 0) hx hb dX8_isNew_65 (by decide) ?_
                      refine x_cvi (y := bi (b3 && nwP ms mark u v1 g1)) (by first | (rw [h31]; rfl) | (rw [show nwP ms mark u v1 g1 = false by unfold nwP; simp [h58], Bool.and_false]; rfl)) ?_
                      refine lv_istore_n (lv' := [(3, .int (bi (b3 && nwP ms mark u v1 g1))), (0, .ref mo), (1, .int (nI d)), (2, .int (nI mark)), (4, .int (nI u)), (5, .int (nI v1)), (6, .int (nI g1))]) hx hb dX8_isNew_66 rfl hl (by decide) rfl (fun ls hl => ?_)
                      refine lv_iinc (v := nI (g1 + 1)) (lv' := [(6, .int (nI (g1 + 1))), (3, .int (bi (b3 && nwP ms mark u v1 g1))), (0, .ref mo), (1, .int (nI d)), (2, .int (nI mark)), (4, .int (nI u)), (5, .int (nI v1))]) hx hb dX8_isNew_67 hl (k := 6) rfl (by exact nI_1 _) (by decide) rfl (fun ls hl => ?_)
                      refine lv_goto (tgt := 23) hx hb dX8_isNew_70 (by decide) ?_
                      exact ih23 (g1 + 1) (b3 && nwP ms mark u v1 g1) _ _ _ (by omega) (by omega) (by rw [al_s, hb3, Bool.and_assoc]) hw (lv_sub hl [2, 3, 4, 1, 5, 6, 0] rfl)
                    · have h31 := bi_t c31
                      refine lv_aload_n hx hb dX8_isNew_34 rfl (lv_at hl 0 rfl) ?_
                      refine xg X hw (C := RX8) (T := TX8) (N := 27) (by decide +kernel) 0 rfl rfl 21 (by decide) rfl (by decide +kernel) rfl dX8_isNew_35 ?_
                      refine lv_iload hx hb dX8_isNew_38 (lv_at hl 5 rfl) ?_
                      refine xia X hw 1 rfl (j := v1) (rfl) (by omega) (by decide) dX8_isNew_40 ?_
                      refine x_cvi (y := nI (atL ms v1)) (by exact hM v1 (by omega)) ?_
                      refine lv_aload_n hx hb dX8_isNew_41 rfl (lv_at hl 0 rfl) ?_
                      refine xg X hw (C := RX8) (T := TX8) (N := 27) (by decide +kernel) 0 rfl rfl 21 (by decide) rfl (by decide +kernel) rfl dX8_isNew_42 ?_
                      refine lv_iload hx hb dX8_isNew_45 (lv_at hl 6 rfl) ?_
                      refine xia X hw 1 rfl (j := g1) (rfl) (by omega) (by decide) dX8_isNew_47 ?_
                      refine x_cvi (y := nI (atL ms g1)) (by exact hM g1 (by omega)) ?_
                      refine lv_isub hx hb dX8_isNew_48 ?_
                      refine x_cvi (y := nI (atL ms v1 - atL ms g1)) (by exact pk_sub (Nat.le_of_lt (at_lt ms hS g1 v1 (by omega) (by omega)))) ?_
                      refine lv_iload_n hx hb dX8_isNew_49 rfl (lv_at hl 2 rfl) ?_
                      refine lv_aload_n hx hb dX8_isNew_50 rfl (lv_at hl 0 rfl) ?_
                      refine xg X hw (C := RX8) (T := TX8) (N := 27) (by decide +kernel) 0 rfl rfl 21 (by decide) rfl (by decide +kernel) rfl dX8_isNew_51 ?_
                      refine lv_iload hx hb dX8_isNew_54 (lv_at hl 4 rfl) ?_
                      refine xia X hw 1 rfl (j := u) (rfl) (by omega) (by decide) dX8_isNew_56 ?_
                      refine x_cvi (y := nI (atL ms u)) (by exact hM u (by omega)) ?_
                      refine lv_isub hx hb dX8_isNew_57 ?_
                      refine x_cvi (y := nI (mark - atL ms u)) (by exact pk_sub (Nat.le_of_lt (hmm _ (at_mem ms u (by omega))))) ?_
                      refine lv_icmp_eq (tgt := 65) hx hb dX8_isNew_58 (by decide) (fun c58 => ?_) (fun c58 => ?_)
                      · have h58 : atL ms v1 - atL ms g1 = mark - atL ms u := i_eq (by omega) (by omega) c58
                        refine lv_iconst (v := 0) hx hb dX8_isNew_65 (by decide) ?_
                        refine x_cvi (y := bi (b3 && nwP ms mark u v1 g1)) (by first | (rw [h31]; rfl) | (rw [show nwP ms mark u v1 g1 = false by unfold nwP; simp [h58], Bool.and_false]; rfl)) ?_
                        refine lv_istore_n (lv' := [(3, .int (bi (b3 && nwP ms mark u v1 g1))), (0, .ref mo), (1, .int (nI d)), (2, .int (nI mark)), (4, .int (nI u)), (5, .int (nI v1)), (6, .int (nI g1))]) hx hb dX8_isNew_66 rfl hl (by decide) rfl (fun ls hl => ?_)
                        refine lv_iinc (v := nI (g1 + 1)) (lv' := [(6, .int (nI (g1 + 1))), (3, .int (bi (b3 && nwP ms mark u v1 g1))), (0, .ref mo), (1, .int (nI d)), (2, .int (nI mark)), (4, .int (nI u)), (5, .int (nI v1))]) hx hb dX8_isNew_67 hl (k := 6) rfl (by exact nI_1 _) (by decide) rfl (fun ls hl => ?_)
                        refine lv_goto (tgt := 23) hx hb dX8_isNew_70 (by decide) ?_
                        exact ih23 (g1 + 1) (b3 && nwP ms mark u v1 g1) _ _ _ (by omega) (by omega) (by rw [al_s, hb3, Bool.and_assoc]) hw (lv_sub hl [2, 3, 4, 1, 5, 6, 0] rfl)
                      · have h58 : ¬ atL ms v1 - atL ms g1 = mark - atL ms u := i_ne c58
                        refine lv_iconst (v := 1) hx hb dX8_isNew_61 (by decide) ?_
                        refine x_cvi (y := bi (b3 && nwP ms mark u v1 g1)) (by rw [h31, show nwP ms mark u v1 g1 = true by unfold nwP; simp [h58]]; rfl) ?_
                        refine lv_goto (tgt := 66) hx hb dX8_isNew_62 (by decide) ?_
                        refine lv_istore_n (lv' := [(3, .int (bi (b3 && nwP ms mark u v1 g1))), (0, .ref mo), (1, .int (nI d)), (2, .int (nI mark)), (4, .int (nI u)), (5, .int (nI v1)), (6, .int (nI g1))]) hx hb dX8_isNew_66 rfl hl (by decide) rfl (fun ls hl => ?_)
                        refine lv_iinc (v := nI (g1 + 1)) (lv' := [(6, .int (nI (g1 + 1))), (3, .int (bi (b3 && nwP ms mark u v1 g1))), (0, .ref mo), (1, .int (nI d)), (2, .int (nI mark)), (4, .int (nI u)), (5, .int (nI v1))]) hx hb dX8_isNew_67 hl (k := 6) rfl (by exact nI_1 _) (by decide) rfl (fun ls hl => ?_)
                        refine lv_goto (tgt := 23) hx hb dX8_isNew_70 (by decide) ?_
                        exact ih23 (g1 + 1) (b3 && nwP ms mark u v1 g1) _ _ _ (by omega) (by omega) (by rw [al_s, hb3, Bool.and_assoc]) hw (lv_sub hl [2, 3, 4, 1, 5, 6, 0] rfl)
              exact lp23 _ 0 b2 _ _ _ (Nat.lt_succ_self _) (by omega) (by show _ = (_ && true); rw [Bool.and_true]) hw (lv_sub hl [1, 2, 3, 4, 5, 6, 0] rfl)
        exact lp14 _ 0 b1 _ _ _ (Nat.lt_succ_self _) (by omega) (by show _ = (_ && true); rw [Bool.and_true]) hw (lv_sub hl [1, 2, 3, 4, 5, 0] rfl)
  exact lp5 _ 0 true _ _ _ (Nat.lt_succ_self _) (by omega) (rfl) hw (lv_sub hl [2, 3, 4, 1, 0] rfl)

set_option maxHeartbeats 4000000 in
set_option maxRecDepth 100000 in
theorem c_X8_noteRuler (l : Launch) (G : GG) (mo : Nat) (th : Nat) (ea : Nat) (sa : Nat) (lk : Nat) (lq : Nat) (lz : Nat) (rb : Nat) (rn : Nat) (rt : Nat) (rk : Nat) (cb : Nat) (cm : Nat) (cu : Nat) (ck : Nat) (mk : Nat) (nt : Nat) (kp : Nat) (iq : Nat) (lg : Int32) (un : Int32) (tm : Int32) (kr : Int32) (kc : Int32) (se : Int32) (tr : Int32) (ka : Int32) (wr : Int32) (mf : Nat → Int32) (rnf : Nat → Int32) (rkv : Nat → Int32) (nb : Nat) (n : Nat) (hn1 : 1 ≤ n) (hn : n ≤ 7) : CT l G yX8_noteRuler wsX8_noteRuler ({ frames := 0, cells := 0, slots := 0, locals := 0 } : Room) [.ref mo, .int (nI n)] [(mo, .inr (5, [.ref th, .ref ea, .ref sa, .ref lk, .ref lq, .ref lz, .int lg, .int un, .int tm, .ref rb, .ref rn, .ref rt, .ref rk, .int kr, .ref cb, .ref cm, .ref cu, .ref ck, .int kc, .int se, .int tr, .ref mk, .ref nt, .ref kp, .ref iq, .int ka, .int wr])), (mk, .inl (G.2.1, 12, .inl mf)), (rn, .inl (G.2.1, 8, .inl (upd rnf n (nI nb)))), (rk, .inl (G.2.1, 96, .inl rkv))] (fun r w => r = none ∧ w = [(mo, .inr (5, [.ref th, .ref ea, .ref sa, .ref lk, .ref lq, .ref lz, .int lg, .int un, .int tm, .ref rb, .ref rn, .ref rt, .ref rk, .int kr, .ref cb, .ref cm, .ref cu, .ref ck, .int kc, .int se, .int tr, .ref mk, .ref nt, .ref kp, .ref iq, .int ka, .int wr])), (mk, .inl (G.2.1, 12, .inl mf)), (rn, .inl (G.2.1, 8, .inl (upd rnf n (nI (nb + 1))))), (rk, .inl (G.2.1, 96, .inl (if nI nb = 0 then cpy mf rkv (12 * n) n else rkv)))]) 0 0 := by
  refine ct_v (cc := cX8_noteRuler) (maxL := 3) (by decide +kernel) rfl (Nat.le_of_ble_eq_true rfl) ?_
  intro p e s mt below meth c A Q X hw hret ls hl
  obtain ⟨hx, hb, -⟩ := id X
  have hl : lv_has ls 3 [(0, .ref mo), (1, .int (nI n))] := hl
  refine lv_iconst (v := 0) hx hb dX8_noteRuler_0 (by decide) ?_
  refine x_cvi (y := nI 0) (by rfl) ?_
  refine lv_istore_n (lv' := [(2, .int (nI 0)), (0, .ref mo), (1, .int (nI n))]) hx hb dX8_noteRuler_1 rfl hl (by decide) rfl (fun ls hl => ?_)
  have lp2 : ∀ (fu : Nat) (k : Nat) (H : Heap) (locs : List Loc) (ls : Array Slot), 13 - k < fu → (k ≤ n) → (k ≠ 0 → nI nb = 0) → WS G A s.heap H locs [(mo, .inr (5, [.ref th, .ref ea, .ref sa, .ref lk, .ref lq, .ref lz, .int lg, .int un, .int tm, .ref rb, .ref rn, .ref rt, .ref rk, .int kr, .ref cb, .ref cm, .ref cu, .ref ck, .int kc, .int se, .int tr, .ref mk, .ref nt, .ref kp, .ref iq, .int ka, .int wr])), (mk, .inl (G.2.1, 12, .inl mf)), (rn, .inl (G.2.1, 8, .inl (upd rnf n (nI nb)))), (rk, .inl (G.2.1, 96, .inl (cpy mf rkv (12 * n) k)))] → lv_has ls 3 [(0, .ref mo), (1, .int (nI n)), (2, .int (nI k))] → W p l e ({ frames := 0, cells := 0, slots := 0, locals := 0 } : Room) s mt ([.ref mo, .int (nI n)] : List Value).toArray below meth c H locs 0 0 Q (F0 mt 2 ls []) := by
    intro fu
    induction fu with
    | zero =>
      intro k H locs ls hmu
      exact absurd hmu (Nat.not_lt_zero _)
    | succ fu ih2 =>
      intro k H locs ls hmu2 hk hz hw hl
      refine lv_iload_n hx hb dX8_noteRuler_2 rfl (lv_at hl 2 rfl) ?_
      refine lv_iload_n hx hb dX8_noteRuler_3 rfl (lv_at hl 1 rfl) ?_
      refine lv_icmp_ge (tgt := 39) hx hb dX8_noteRuler_4 (by decide) (fun c4 => ?_) (fun c4 => ?_)
      · have hk2 : n ≤ k := i_le (by omega) (by omega) c4
        refine lv_aload_n hx hb dX8_noteRuler_39 rfl (lv_at hl 0 rfl) ?_
        refine xg X hw (C := RX8) (T := TX8) (N := 27) (by decide +kernel) 0 rfl rfl 10 (by decide) rfl (by decide +kernel) rfl dX8_noteRuler_40 ?_
        refine lv_iload_n hx hb dX8_noteRuler_43 rfl (lv_at hl 1 rfl) ?_
        refine lv_dup2_11 hx hb dX8_noteRuler_44 rfl rfl ?_
        refine xia X hw 2 rfl (j := n) (rfl) (by omega) (by decide) dX8_noteRuler_45 ?_
        refine x_cvi (y := nI nb) (by exact upd_at _ _ _) ?_
        refine lv_iconst (v := 1) hx hb dX8_noteRuler_46 (by decide) ?_
        refine lv_iadd hx hb dX8_noteRuler_47 ?_
        refine x_cvi (y := nI (nb + 1)) (by exact nI_1 _) ?_
        refine xis X hw 2 rfl (j := n) (rfl) (by omega) (by decide) dX8_noteRuler_48 (ws' := [(mo, .inr (5, [.ref th, .ref ea, .ref sa, .ref lk, .ref lq, .ref lz, .int lg, .int un, .int tm, .ref rb, .ref rn, .ref rt, .ref rk, .int kr, .ref cb, .ref cm, .ref cu, .ref ck, .int kc, .int se, .int tr, .ref mk, .ref nt, .ref kp, .ref iq, .int ka, .int wr])), (mk, .inl (G.2.1, 12, .inl mf)), (rn, .inl (G.2.1, 8, .inl (upd (upd rnf n (nI nb)) n (nI (nb + 1))))), (rk, .inl (G.2.1, 96, .inl (cpy mf rkv (12 * n) k)))]) rfl (fun H locs hw => ?_)
        rw [fa_upd_twice] at hw
        refine hret _ _ _ _ _ dX8_noteRuler_49 hw ?_
        exact ⟨rfl, by rw [nr_end hk hz hn1 (by first | exact Or.inl (by omega) | exact Or.inr c13)]⟩
      · have hk2 : k < n := i_nle (by omega) (by omega) c4
        refine lv_aload_n hx hb dX8_noteRuler_7 rfl (lv_at hl 0 rfl) ?_
        refine xg X hw (C := RX8) (T := TX8) (N := 27) (by decide +kernel) 0 rfl rfl 10 (by decide) rfl (by decide +kernel) rfl dX8_noteRuler_8 ?_
        refine lv_iload_n hx hb dX8_noteRuler_11 rfl (lv_at hl 1 rfl) ?_
        refine xia X hw 2 rfl (j := n) (rfl) (by omega) (by decide) dX8_noteRuler_12 ?_
        refine x_cvi (y := nI nb) (by exact upd_at _ _ _) ?_
        refine lv_if_ne (tgt := 39) hx hb dX8_noteRuler_13 (by decide) (fun c13 => ?_) (fun c13 => ?_)
        · skip
          refine lv_aload_n hx hb dX8_noteRuler_39 rfl (lv_at hl 0 rfl) ?_
          refine xg X hw (C := RX8) (T := TX8) (N := 27) (by decide +kernel) 0 rfl rfl 10 (by decide) rfl (by decide +kernel) rfl dX8_noteRuler_40 ?_
          refine lv_iload_n hx hb dX8_noteRuler_43 rfl (lv_at hl 1 rfl) ?_
          refine lv_dup2_11 hx hb dX8_noteRuler_44 rfl rfl ?_
          refine xia X hw 2 rfl (j := n) (rfl) (by omega) (by decide) dX8_noteRuler_45 ?_
          refine x_cvi (y := nI nb) (by exact upd_at _ _ _) ?_
          refine lv_iconst (v := 1) hx hb dX8_noteRuler_46 (by decide) ?_
          refine lv_iadd hx hb dX8_noteRuler_47 ?_
          refine x_cvi (y := nI (nb + 1)) (by exact nI_1 _) ?_
          refine xis X hw 2 rfl (j := n) (rfl) (by omega) (by decide) dX8_noteRuler_48 (ws' := [(mo, .inr (5, [.ref th, .ref ea, .ref sa, .ref lk, .ref lq, .ref lz, .int lg, .int un, .int tm, .ref rb, .ref rn, .ref rt, .ref rk, .int kr, .ref cb, .ref cm, .ref cu, .ref ck, .int kc, .int se, .int tr, .ref mk, .ref nt, .ref kp, .ref iq, .int ka, .int wr])), (mk, .inl (G.2.1, 12, .inl mf)), (rn, .inl (G.2.1, 8, .inl (upd (upd rnf n (nI nb)) n (nI (nb + 1))))), (rk, .inl (G.2.1, 96, .inl (cpy mf rkv (12 * n) k)))]) rfl (fun H locs hw => ?_)
          rw [fa_upd_twice] at hw
          refine hret _ _ _ _ _ dX8_noteRuler_49 hw ?_
          exact ⟨rfl, by rw [nr_end hk hz hn1 (by first | exact Or.inl (by omega) | exact Or.inr c13)]⟩
        · skip
          refine lv_aload_n hx hb dX8_noteRuler_16 rfl (lv_at hl 0 rfl) ?_
          refine xg X hw (C := RX8) (T := TX8) (N := 27) (by decide +kernel) 0 rfl rfl 12 (by decide) rfl (by decide +kernel) rfl dX8_noteRuler_17 ?_
          refine lv_bipush (v := 12) hx hb dX8_noteRuler_20 (by decide) ?_
          refine lv_iload_n hx hb dX8_noteRuler_22 rfl (lv_at hl 1 rfl) ?_
          refine lv_imul hx hb dX8_noteRuler_23 ?_
          refine x_cvi (y := nI (12 * n)) (by exact pk_mul 12 n) ?_
          refine lv_iload_n hx hb dX8_noteRuler_24 rfl (lv_at hl 2 rfl) ?_
          refine lv_iadd hx hb dX8_noteRuler_25 ?_
          refine x_cvi (y := nI (12 * n + k)) (by exact nI_add _ _) ?_
          refine lv_aload_n hx hb dX8_noteRuler_26 rfl (lv_at hl 0 rfl) ?_
          refine xg X hw (C := RX8) (T := TX8) (N := 27) (by decide +kernel) 0 rfl rfl 21 (by decide) rfl (by decide +kernel) rfl dX8_noteRuler_27 ?_
          refine lv_iload_n hx hb dX8_noteRuler_30 rfl (lv_at hl 2 rfl) ?_
          refine xia X hw 1 rfl (j := k) (rfl) (by omega) (by decide) dX8_noteRuler_31 ?_
          refine xis X hw 3 rfl (j := (12 * n + k)) (rfl) (by omega) (by decide) dX8_noteRuler_32 (ws' := [(mo, .inr (5, [.ref th, .ref ea, .ref sa, .ref lk, .ref lq, .ref lz, .int lg, .int un, .int tm, .ref rb, .ref rn, .ref rt, .ref rk, .int kr, .ref cb, .ref cm, .ref cu, .ref ck, .int kc, .int se, .int tr, .ref mk, .ref nt, .ref kp, .ref iq, .int ka, .int wr])), (mk, .inl (G.2.1, 12, .inl mf)), (rn, .inl (G.2.1, 8, .inl (upd rnf n (nI nb)))), (rk, .inl (G.2.1, 96, .inl (upd (cpy mf rkv (12 * n) k) (12 * n + k) (mf k))))]) rfl (fun H locs hw => ?_)
          rw [cpy_up] at hw
          refine lv_iinc (v := nI (k + 1)) (lv' := [(2, .int (nI (k + 1))), (0, .ref mo), (1, .int (nI n))]) hx hb dX8_noteRuler_33 hl (k := 2) rfl (by exact nI_1 _) (by decide) rfl (fun ls hl => ?_)
          refine lv_goto (tgt := 2) hx hb dX8_noteRuler_36 (by decide) ?_
          exact ih2 (k + 1) _ _ _ (by omega) (by omega) (fun _ => c13) hw (lv_sub hl [1, 2, 0] rfl)
  have hw : WS G A s.heap s.heap [] [(mo, .inr (5, [.ref th, .ref ea, .ref sa, .ref lk, .ref lq, .ref lz, .int lg, .int un, .int tm, .ref rb, .ref rn, .ref rt, .ref rk, .int kr, .ref cb, .ref cm, .ref cu, .ref ck, .int kc, .int se, .int tr, .ref mk, .ref nt, .ref kp, .ref iq, .int ka, .int wr])), (mk, .inl (G.2.1, 12, .inl mf)), (rn, .inl (G.2.1, 8, .inl (upd rnf n (nI nb)))), (rk, .inl (G.2.1, 96, .inl (cpy mf rkv (12 * n) 0)))] := by rw [cpy_0]; exact hw
  exact lp2 _ 0 _ _ _ (Nat.lt_succ_self _) (by omega) (fun h => absurd rfl h) hw (lv_sub hl [1, 2, 0] rfl)

set_option maxHeartbeats 4000000 in
set_option maxRecDepth 100000 in
theorem c_X8_searchRulers (l : Launch) (G : GG) (mo : Nat) (th : Nat) (ea : Nat) (sa : Nat) (lk : Nat) (lq : Nat) (lz : Nat) (rb : Nat) (rn : Nat) (rt : Nat) (rk : Nat) (cb : Nat) (cm : Nat) (cu : Nat) (ck : Nat) (mk : Nat) (nt : Nat) (kp : Nat) (iq : Nat) (lg : Int32) (un : Int32) (tm : Int32) (kr : Int32) (kc : Int32) (se : Int32) (tr : Int32) (ka : Int32) (wr : Int32) (mf : Nat → Int32) (nf : Nat → Int32) (rnf : Nat → Int32) (rtf : Nat → Int32) (rk0 : Nat → Int32) (rkv : Nat → Int32) (nb : Nat) (tr0 : Nat) (fi : Nat) (fl : List Nat) (n : Nat) (sz : Nat) (hn1 : 2 ≤ n) (hn : n ≤ 7) (hsz : sz ≤ 60) (hq : n * (n - 1) / 2 ≤ sz) (hK0 : okR n (nb, tr0, fi, fl) rk0 rkv) : CT l G yX8_searchRulers wsX8_searchRulers ({ frames := 1, cells := 0, slots := 0, locals := 26 } : Room) [.ref mo, .int (nI n), .int (nI sz)] [(mo, .inr (5, [.ref th, .ref ea, .ref sa, .ref lk, .ref lq, .ref lz, .int lg, .int un, .int tm, .ref rb, .ref rn, .ref rt, .ref rk, .int kr, .ref cb, .ref cm, .ref cu, .ref ck, .int kc, .int se, .int tr, .ref mk, .ref nt, .ref kp, .ref iq, .int ka, .int wr])), (mk, .inl (G.2.1, 12, .inl mf)), (nt, .inl (G.2.1, 12, .inl nf)), (rn, .inl (G.2.1, 8, .inl (upd rnf n (nI nb)))), (rt, .inl (G.2.1, 8, .inl (upd rtf n (nI tr0)))), (rk, .inl (G.2.1, 96, .inl rkv))] (fun r w => r = none ∧ ∃ (mf2 nf2 rk2 : Nat → Int32), okR n (rT sz (n - 1) 0 1 0 1 [0] (nb, tr0, fi, fl)) rk0 rk2 ∧ w = [(mo, .inr (5, [.ref th, .ref ea, .ref sa, .ref lk, .ref lq, .ref lz, .int lg, .int un, .int tm, .ref rb, .ref rn, .ref rt, .ref rk, .int kr, .ref cb, .ref cm, .ref cu, .ref ck, .int kc, .int se, .int tr, .ref mk, .ref nt, .ref kp, .ref iq, .int ka, .int wr])), (mk, .inl (G.2.1, 12, .inl mf2)), (nt, .inl (G.2.1, 12, .inl nf2)), (rn, .inl (G.2.1, 8, .inl (upd rnf n (nI (rT sz (n - 1) 0 1 0 1 [0] (nb, tr0, fi, fl)).1)))), (rt, .inl (G.2.1, 8, .inl (upd rtf n (nI (rT sz (n - 1) 0 1 0 1 [0] (nb, tr0, fi, fl)).2.1)))), (rk, .inl (G.2.1, 96, .inl rk2))]) 0 0 := by
  refine ct_v (cc := cX8_searchRulers) (maxL := 7) (by decide +kernel) rfl (Nat.le_of_ble_eq_true rfl) ?_
  intro p e s mt below meth c A Q X hw hret ls hl
  obtain ⟨hx, hb, -⟩ := id X
  have hl : lv_has ls 7 [(0, .ref mo), (1, .int (nI n)), (2, .int (nI sz))] := hl
  refine lv_iconst (v := 1) hx hb dX8_searchRulers_0 (by decide) ?_
  refine x_cvi (y := nI 1) (by rfl) ?_
  refine lv_istore_n (lv' := [(3, .int (nI 1)), (0, .ref mo), (1, .int (nI n)), (2, .int (nI sz))]) hx hb dX8_searchRulers_1 rfl hl (by decide) rfl (fun ls hl => ?_)
  refine lv_aload_n hx hb dX8_searchRulers_2 rfl (lv_at hl 1 rfl) ?_
  refine xg X hw (C := RX8) (T := TX8) (N := 27) (by decide +kernel) 0 rfl rfl 21 (by decide) rfl (by decide +kernel) rfl dX8_searchRulers_3 ?_
  refine lv_iconst (v := 0) hx hb dX8_searchRulers_6 (by decide) ?_
  refine lv_iconst (v := 0) hx hb dX8_searchRulers_7 (by decide) ?_
  refine x_cvi (y := nI 0) (by rfl) ?_
  refine xis X hw 1 rfl (j := 0) (rfl) (by decide) (by decide) dX8_searchRulers_8 (ws' := [(mo, .inr (5, [.ref th, .ref ea, .ref sa, .ref lk, .ref lq, .ref lz, .int lg, .int un, .int tm, .ref rb, .ref rn, .ref rt, .ref rk, .int kr, .ref cb, .ref cm, .ref cu, .ref ck, .int kc, .int se, .int tr, .ref mk, .ref nt, .ref kp, .ref iq, .int ka, .int wr])), (mk, .inl (G.2.1, 12, .inl (upd mf 0 (nI 0)))), (nt, .inl (G.2.1, 12, .inl nf)), (rn, .inl (G.2.1, 8, .inl (upd rnf n (nI nb)))), (rt, .inl (G.2.1, 8, .inl (upd rtf n (nI tr0)))), (rk, .inl (G.2.1, 96, .inl rkv))]) rfl (fun H locs hw => ?_)
  refine lv_aload_n hx hb dX8_searchRulers_9 rfl (lv_at hl 1 rfl) ?_
  refine xg X hw (C := RX8) (T := TX8) (N := 27) (by decide +kernel) 0 rfl rfl 22 (by decide) rfl (by decide +kernel) rfl dX8_searchRulers_10 ?_
  refine lv_iconst (v := 1) hx hb dX8_searchRulers_13 (by decide) ?_
  refine x_cvi (y := nI 1) (by rfl) ?_
  refine lv_iconst (v := 1) hx hb dX8_searchRulers_14 (by decide) ?_
  refine x_cvi (y := nI 1) (by rfl) ?_
  refine xis X hw 2 rfl (j := 1) (rfl) (by decide) (by decide) dX8_searchRulers_15 (ws' := [(mo, .inr (5, [.ref th, .ref ea, .ref sa, .ref lk, .ref lq, .ref lz, .int lg, .int un, .int tm, .ref rb, .ref rn, .ref rt, .ref rk, .int kr, .ref cb, .ref cm, .ref cu, .ref ck, .int kc, .int se, .int tr, .ref mk, .ref nt, .ref kp, .ref iq, .int ka, .int wr])), (mk, .inl (G.2.1, 12, .inl (upd mf 0 (nI 0)))), (nt, .inl (G.2.1, 12, .inl (upd nf 1 (nI 1)))), (rn, .inl (G.2.1, 8, .inl (upd rnf n (nI nb)))), (rt, .inl (G.2.1, 8, .inl (upd rtf n (nI tr0)))), (rk, .inl (G.2.1, 96, .inl rkv))]) rfl (fun H locs hw => ?_)
  have lp16 : ∀ (fu : Nat) (d0 : Nat) (stk : List (Nat × Nat)) (mf1 : Nat → Int32) (nf1 : Nat → Int32) (rk1 : Nat → Int32) (nb1 : Nat) (tr1 : Nat) (fi1 : Nat) (fl1 : List Nat) (H : Heap) (locs : List Loc) (ls : Array Slot), muT n stk < fu → (d0 = stk.length) → (stk.length < n) → (okM (msO stk) mf1) → (okT nf1 stk) → (srt (msO stk)) → (okR n (nb1, tr1, fi1, fl1) rk0 rk1) → (coR sz n stk (nb1, tr1, fi1, fl1) = rT sz (n - 1) 0 1 0 1 [0] (nb, tr0, fi, fl)) → WS G A s.heap H locs [(mo, .inr (5, [.ref th, .ref ea, .ref sa, .ref lk, .ref lq, .ref lz, .int lg, .int un, .int tm, .ref rb, .ref rn, .ref rt, .ref rk, .int kr, .ref cb, .ref cm, .ref cu, .ref ck, .int kc, .int se, .int tr, .ref mk, .ref nt, .ref kp, .ref iq, .int ka, .int wr])), (mk, .inl (G.2.1, 12, .inl mf1)), (nt, .inl (G.2.1, 12, .inl nf1)), (rn, .inl (G.2.1, 8, .inl (upd rnf n (nI nb1)))), (rt, .inl (G.2.1, 8, .inl (upd rtf n (nI tr1)))), (rk, .inl (G.2.1, 96, .inl rk1))] → lv_has ls 7 [(0, .ref mo), (1, .int (nI n)), (2, .int (nI sz)), (3, .int (nI d0))] → W p l e ({ frames := 1, cells := 0, slots := 0, locals := 26 } : Room) s mt ([.ref mo, .int (nI n), .int (nI sz)] : List Value).toArray below meth c H locs 0 0 Q (F0 mt 16 ls []) := by
    intro fu
    induction fu with
    | zero =>
      intro d0 stk mf1 nf1 rk1 nb1 tr1 fi1 fl1 H locs ls hmu
      exact absurd hmu (Nat.not_lt_zero _)
    | succ fu ih16 =>
      intro d0 stk mf1 nf1 rk1 nb1 tr1 fi1 fl1 H locs ls hmu16 hd0 hsl hM hT hS hK hR hw hl
      refine lv_iload_n hx hb dX8_searchRulers_16 rfl (lv_at hl 3 rfl) ?_
      refine lv_if_le (tgt := 143) hx hb dX8_searchRulers_17 (by decide) (fun c17 => ?_) (fun c17 => ?_)
      · have h0 : stk = [] := List.length_eq_zero_iff.mp (by have := i_le (b := 0) (by omega) (by decide) c17; omega)
        subst h0
        refine hret _ _ _ _ _ dX8_searchRulers_143 hw ?_
        have hR2 : (nb1, tr1, fi1, fl1) = rT sz (n - 1) 0 1 0 1 [0] (nb, tr0, fi, fl) := hR
        rw [← hR2]
        exact ⟨rfl, mf1, nf1, rk1, hK, rfl⟩
      · obtain ⟨⟨last, nxt⟩, t, rfl⟩ : ∃ q t, stk = q :: t := by
          cases stk with
          | nil => exact absurd (show nI d0 ≤ 0 by rw [hd0]; decide) c17
          | cons q t => exact ⟨q, t, rfl⟩
        have hd : d0 = t.length + 1 := hd0
        have hd9 : (last :: msO t).length = d0 := by rw [hd]; simp [msO]
        have hdn : d0 < n := by rw [hd]; exact hsl
        obtain ⟨k, hk⟩ : ∃ k, k = n - 1 - d0 := ⟨_, rfl⟩
        have hkk : n - 1 - (t.length + 1) = k := by rw [← hd]; exact hk.symm
        have hk4 : k * (k + 1) / 2 ≤ sz := Nat.le_trans (Nat.div_le_div_right (by rw [Nat.mul_comm n (n - 1)]; exact Nat.mul_le_mul (by omega) (by omega))) hq
        obtain ⟨hT1, hT2, hT3, hT4⟩ := id hT
        refine lv_iload_n hx hb dX8_searchRulers_20 rfl (lv_at hl 1 rfl) ?_
        refine lv_iconst (v := 1) hx hb dX8_searchRulers_21 (by decide) ?_
        refine lv_isub hx hb dX8_searchRulers_22 ?_
        refine x_cvi (y := nI (n - 1)) (by exact pk_sub (b := 1) (by omega)) ?_
        refine lv_iload_n hx hb dX8_searchRulers_23 rfl (lv_at hl 3 rfl) ?_
        refine lv_isub hx hb dX8_searchRulers_24 ?_
        refine x_cvi (y := nI k) (by rw [hk]; exact pk_sub (by omega)) ?_
        refine lv_istore (lv' := [(4, .int (nI k)), (0, .ref mo), (1, .int (nI n)), (2, .int (nI sz)), (3, .int (nI d0))]) hx hb dX8_searchRulers_25 hl (by decide) rfl (fun ls hl => ?_)
        refine lv_iload_n hx hb dX8_searchRulers_27 rfl (lv_at hl 3 rfl) ?_
        refine lv_iload hx hb dX8_searchRulers_28 (lv_at hl 0 rfl) ?_
        refine xcP (n := 1) (As := [.int (nI k)]) (rest := [.int (nI sz)]) X hw (c_X8_halved l G k (by omega)) gX8_searchRulers_X8_halved rfl ⟨rfl, rfl⟩ (by decide +kernel) ⟨by decide, by decide⟩ rfl hl.1 rfl (Nat.le_of_ble_eq_true rfl) dX8_searchRulers_30 ⟨by decide, by decide⟩ (fun r w1 H locs hp hw => ?_)
        obtain rfl := hp
        refine W.eq (g2 := F0 mt 33 ls [.int (nI (k * (k + 1) / 2)), .int (nI sz)]) rfl ?_
        refine lv_isub hx hb dX8_searchRulers_33 ?_
        refine x_cvi (y := nI (rTo sz k)) (by exact pk_sub hk4) ?_
        refine lv_istore (lv' := [(5, .int (nI (rTo sz k))), (4, .int (nI k)), (0, .ref mo), (1, .int (nI n)), (2, .int (nI sz)), (3, .int (nI d0))]) hx hb dX8_searchRulers_34 hl (by decide) rfl (fun ls hl => ?_)
        have jn61 : ∀ (mark : Nat) (H : Heap) (locs : List Loc) (ls : Array Slot) (hmk : stR sz k nxt = mark), WS G A s.heap H locs [(mo, .inr (5, [.ref th, .ref ea, .ref sa, .ref lk, .ref lq, .ref lz, .int lg, .int un, .int tm, .ref rb, .ref rn, .ref rt, .ref rk, .int kr, .ref cb, .ref cm, .ref cu, .ref ck, .int kc, .int se, .int tr, .ref mk, .ref nt, .ref kp, .ref iq, .int ka, .int wr])), (mk, .inl (G.2.1, 12, .inl mf1)), (nt, .inl (G.2.1, 12, .inl nf1)), (rn, .inl (G.2.1, 8, .inl (upd rnf n (nI nb1)))), (rt, .inl (G.2.1, 8, .inl (upd rtf n (nI tr1)))), (rk, .inl (G.2.1, 96, .inl rk1))] → lv_has ls 7 [(5, .int (nI (rTo sz k))), (4, .int (nI k)), (0, .ref mo), (1, .int (nI n)), (2, .int (nI sz)), (3, .int (nI d0))] → W p l e ({ frames := 1, cells := 0, slots := 0, locals := 26 } : Room) s mt ([.ref mo, .int (nI n), .int (nI sz)] : List Value).toArray below meth c H locs 0 0 Q (F0 mt 61 ls [.int (nI mark)]) := by
          intro mark H locs ls hmk hw hl
          have hge : nxt ≤ mark := hmk ▸ stR_ge sz k nxt
          have hrt : rTo sz k ≤ 60 := Nat.le_trans (Nat.sub_le _ _) hsz
          refine lv_istore (lv' := [(6, .int (nI mark)), (5, .int (nI (rTo sz k))), (4, .int (nI k)), (0, .ref mo), (1, .int (nI n)), (2, .int (nI sz)), (3, .int (nI d0))]) hx hb dX8_searchRulers_61 hl (by decide) rfl (fun ls hl => ?_)
          refine lv_iload hx hb dX8_searchRulers_63 (lv_at hl 0 rfl) ?_
          refine lv_iload hx hb dX8_searchRulers_65 (lv_at hl 1 rfl) ?_
          refine lv_icmp_le (tgt := 76) hx hb dX8_searchRulers_67 (by decide) (fun c67 => ?_) (fun c67 => ?_)
          · have hle : mark ≤ rTo sz k := i_le (by unfold stR at hmk; split at hmk <;> omega) (by omega) c67
            have hmm : ∀ y ∈ last :: msO t, y < mark := fun y hy => by
              rcases List.mem_cons.mp hy with hy2 | hy2
              · omega
              · have := hS.1 y hy2; omega
            refine lv_aload_n hx hb dX8_searchRulers_76 rfl (lv_at hl 3 rfl) ?_
            refine xg X hw (C := RX8) (T := TX8) (N := 27) (by decide +kernel) 0 rfl rfl 22 (by decide) rfl (by decide +kernel) rfl dX8_searchRulers_77 ?_
            refine lv_iload_n hx hb dX8_searchRulers_80 rfl (lv_at hl 6 rfl) ?_
            refine lv_iload hx hb dX8_searchRulers_81 (lv_at hl 0 rfl) ?_
            refine lv_iconst (v := 1) hx hb dX8_searchRulers_83 (by decide) ?_
            refine lv_iadd hx hb dX8_searchRulers_84 ?_
            refine x_cvi (y := nI (mark + 1)) (by exact nI_1 _) ?_
            refine xis X hw 2 rfl (j := d0) (rfl) (by omega) (by decide) dX8_searchRulers_85 (ws' := [(mo, .inr (5, [.ref th, .ref ea, .ref sa, .ref lk, .ref lq, .ref lz, .int lg, .int un, .int tm, .ref rb, .ref rn, .ref rt, .ref rk, .int kr, .ref cb, .ref cm, .ref cu, .ref ck, .int kc, .int se, .int tr, .ref mk, .ref nt, .ref kp, .ref iq, .int ka, .int wr])), (mk, .inl (G.2.1, 12, .inl mf1)), (nt, .inl (G.2.1, 12, .inl (upd nf1 d0 (nI (mark + 1))))), (rn, .inl (G.2.1, 8, .inl (upd rnf n (nI nb1)))), (rt, .inl (G.2.1, 8, .inl (upd rtf n (nI tr1)))), (rk, .inl (G.2.1, 96, .inl rk1))]) rfl (fun H locs hw => ?_)
            refine lv_aload_n hx hb dX8_searchRulers_86 rfl (lv_at hl 3 rfl) ?_
            refine xg X hw (C := RX8) (T := TX8) (N := 27) (by decide +kernel) 0 rfl rfl 11 (by decide) rfl (by decide +kernel) rfl dX8_searchRulers_87 ?_
            refine lv_iload_n hx hb dX8_searchRulers_90 rfl (lv_at hl 4 rfl) ?_
            refine lv_dup2_11 hx hb dX8_searchRulers_91 rfl rfl ?_
            refine xia X hw 4 rfl (j := n) (rfl) (by omega) (by decide) dX8_searchRulers_92 ?_
            refine x_cvi (y := nI tr1) (by exact upd_at _ _ _) ?_
            refine lv_iconst (v := 1) hx hb dX8_searchRulers_93 (by decide) ?_
            refine lv_iadd hx hb dX8_searchRulers_94 ?_
            refine x_cvi (y := nI (tr1 + 1)) (by exact nI_1 _) ?_
            refine xis X hw 4 rfl (j := n) (rfl) (by omega) (by decide) dX8_searchRulers_95 (ws' := [(mo, .inr (5, [.ref th, .ref ea, .ref sa, .ref lk, .ref lq, .ref lz, .int lg, .int un, .int tm, .ref rb, .ref rn, .ref rt, .ref rk, .int kr, .ref cb, .ref cm, .ref cu, .ref ck, .int kc, .int se, .int tr, .ref mk, .ref nt, .ref kp, .ref iq, .int ka, .int wr])), (mk, .inl (G.2.1, 12, .inl mf1)), (nt, .inl (G.2.1, 12, .inl (upd nf1 d0 (nI (mark + 1))))), (rn, .inl (G.2.1, 8, .inl (upd rnf n (nI nb1)))), (rt, .inl (G.2.1, 8, .inl (upd (upd rtf n (nI tr1)) n (nI (tr1 + 1))))), (rk, .inl (G.2.1, 96, .inl rk1))]) rfl (fun H locs hw => ?_)
            rw [fa_upd_twice] at hw
            refine lv_aload_n hx hb dX8_searchRulers_96 rfl (lv_at hl 3 rfl) ?_
            refine lv_iload_n hx hb dX8_searchRulers_97 rfl (lv_at hl 6 rfl) ?_
            refine lv_iload hx hb dX8_searchRulers_98 (lv_at hl 0 rfl) ?_
            refine xcV (n := 2) (As := [.int (nI d0), .int (nI mark)]) (rest := []) (wc := [(mo, .inr (5, [.ref th, .ref ea, .ref sa, .ref lk, .ref lq, .ref lz, .int lg, .int un, .int tm, .ref rb, .ref rn, .ref rt, .ref rk, .int kr, .ref cb, .ref cm, .ref cu, .ref ck, .int kc, .int se, .int tr, .ref mk, .ref nt, .ref kp, .ref iq, .int ka, .int wr])), (mk, .inl (G.2.1, 12, .inl mf1))]) (wr := [(nt, .inl (G.2.1, 12, .inl (upd nf1 d0 (nI (mark + 1))))), (rn, .inl (G.2.1, 8, .inl (upd rnf n (nI nb1)))), (rt, .inl (G.2.1, 8, .inl (upd rtf n (nI (tr1 + 1))))), (rk, .inl (G.2.1, 96, .inl rk1))]) X hw (c_X8_isNew l G mo th ea sa lk lq lz rb rn rt rk cb cm cu ck mk nt kp iq lg un tm kr kc se tr ka wr mf1 (last :: msO t) d0 mark hd9 (by omega) hM hS hmm (by omega)) (C := RX8) gX8_searchRulers_X8_isNew (q0 := 0) rfl rfl rfl ⟨rfl, rfl⟩ (by decide +kernel) ⟨by decide, by decide⟩ rfl hl.1 rfl (Nat.le_of_ble_eq_true rfl) dX8_searchRulers_100 ⟨by decide, by decide⟩ [0, 1] [2, 3, 4, 5] rfl rfl rfl rfl (by decide) (fun r w1 H locs hp hw => ?_)
            obtain ⟨rfl, rfl⟩ := hp
            have hw := hw.sub (ws' := [(mo, .inr (5, [.ref th, .ref ea, .ref sa, .ref lk, .ref lq, .ref lz, .int lg, .int un, .int tm, .ref rb, .ref rn, .ref rt, .ref rk, .int kr, .ref cb, .ref cm, .ref cu, .ref ck, .int kc, .int se, .int tr, .ref mk, .ref nt, .ref kp, .ref iq, .int ka, .int wr])), (mk, .inl (G.2.1, 12, .inl mf1)), (nt, .inl (G.2.1, 12, .inl (upd nf1 d0 (nI (mark + 1))))), (rn, .inl (G.2.1, 8, .inl (upd rnf n (nI nb1)))), (rt, .inl (G.2.1, 8, .inl (upd rtf n (nI (tr1 + 1))))), (rk, .inl (G.2.1, 96, .inl rk1))]) [4, 5, 0, 1, 2, 3] rfl rfl
            refine W.eq (g2 := F0 mt 103 ls [.int (bi (decide (bkL (last :: msO t) * 2 ^ (mark - (last :: msO t).headD 0) &&& lnL (last :: msO t) = 0)))]) rfl ?_
            refine lv_if_eq (tgt := 140) hx hb dX8_searchRulers_103 (by decide) (fun c103 => ?_) (fun c103 => ?_)
            · have hz : ¬ bkL (last :: msO t) * 2 ^ (mark - last) &&& lnL (last :: msO t) = 0 := of_decide_eq_false (bi_f c103)
              refine lv_goto (tgt := 16) hx hb dX8_searchRulers_140 (by decide) ?_
              exact ih16 d0 ((last, mark + 1) :: t) mf1 (upd nf1 d0 (nI (mark + 1))) rk1 nb1 (tr1 + 1) _ _ _ _ _ (by have := mu_lt (n := n) (x := last) (x' := last) (t := t) (y := nxt) (y' := mark + 1) (by omega) (by omega); omega) (by rw [hd]; rfl) (by simp only [List.length_cons]; omega) (hM) (okT_n hT hd (by omega) (by omega)) (hS) (okR_try hK) (by rw [coR_no hkk hmk hle hz] at hR; exact hR) hw (lv_sub hl [3, 4, 5, 6] rfl)
            · have hz : bkL (last :: msO t) * 2 ^ (mark - last) &&& lnL (last :: msO t) = 0 := of_decide_eq_true (bi_t c103)
              have hM2 : okM (mark :: last :: msO t) (upd mf1 d0 (nI mark)) := by rw [← hd9]; exact okM_c hM
              refine lv_aload_n hx hb dX8_searchRulers_106 rfl (lv_at hl 3 rfl) ?_
              refine xg X hw (C := RX8) (T := TX8) (N := 27) (by decide +kernel) 0 rfl rfl 21 (by decide) rfl (by decide +kernel) rfl dX8_searchRulers_107 ?_
              refine lv_iload_n hx hb dX8_searchRulers_110 rfl (lv_at hl 6 rfl) ?_
              refine lv_iload hx hb dX8_searchRulers_111 (lv_at hl 0 rfl) ?_
              refine xis X hw 1 rfl (j := d0) (rfl) (by omega) (by decide) dX8_searchRulers_113 (ws' := [(mo, .inr (5, [.ref th, .ref ea, .ref sa, .ref lk, .ref lq, .ref lz, .int lg, .int un, .int tm, .ref rb, .ref rn, .ref rt, .ref rk, .int kr, .ref cb, .ref cm, .ref cu, .ref ck, .int kc, .int se, .int tr, .ref mk, .ref nt, .ref kp, .ref iq, .int ka, .int wr])), (mk, .inl (G.2.1, 12, .inl (upd mf1 d0 (nI mark)))), (nt, .inl (G.2.1, 12, .inl (upd nf1 d0 (nI (mark + 1))))), (rn, .inl (G.2.1, 8, .inl (upd rnf n (nI nb1)))), (rt, .inl (G.2.1, 8, .inl (upd rtf n (nI (tr1 + 1))))), (rk, .inl (G.2.1, 96, .inl rk1))]) rfl (fun H locs hw => ?_)
              refine lv_iload hx hb dX8_searchRulers_114 (lv_at hl 2 rfl) ?_
              refine lv_if_ne (tgt := 127) hx hb dX8_searchRulers_116 (by decide) (fun c116 => ?_) (fun c116 => ?_)
              · have hk0 : k ≠ 0 := fun z => c116 (by rw [z]; rfl)
                refine lv_iinc (v := nI (d0 + 1)) (lv' := [(3, .int (nI (d0 + 1))), (6, .int (nI mark)), (5, .int (nI (rTo sz k))), (4, .int (nI k)), (0, .ref mo), (1, .int (nI n)), (2, .int (nI sz))]) hx hb dX8_searchRulers_127 hl (k := 6) rfl (by exact nI_1 _) (by decide) rfl (fun ls hl => ?_)
                refine lv_aload_n hx hb dX8_searchRulers_130 rfl (lv_at hl 4 rfl) ?_
                refine xg X hw (C := RX8) (T := TX8) (N := 27) (by decide +kernel) 0 rfl rfl 22 (by decide) rfl (by decide +kernel) rfl dX8_searchRulers_131 ?_
                refine lv_iload_n hx hb dX8_searchRulers_134 rfl (lv_at hl 0 rfl) ?_
                refine lv_iload hx hb dX8_searchRulers_135 (lv_at hl 1 rfl) ?_
                refine lv_iconst (v := 1) hx hb dX8_searchRulers_137 (by decide) ?_
                refine lv_iadd hx hb dX8_searchRulers_138 ?_
                refine x_cvi (y := nI (mark + 1)) (by exact nI_1 _) ?_
                refine xis X hw 2 rfl (j := (d0 + 1)) (rfl) (by omega) (by decide) dX8_searchRulers_139 (ws' := [(mo, .inr (5, [.ref th, .ref ea, .ref sa, .ref lk, .ref lq, .ref lz, .int lg, .int un, .int tm, .ref rb, .ref rn, .ref rt, .ref rk, .int kr, .ref cb, .ref cm, .ref cu, .ref ck, .int kc, .int se, .int tr, .ref mk, .ref nt, .ref kp, .ref iq, .int ka, .int wr])), (mk, .inl (G.2.1, 12, .inl (upd mf1 d0 (nI mark)))), (nt, .inl (G.2.1, 12, .inl (upd (upd nf1 d0 (nI (mark + 1))) (d0 + 1) (nI (mark + 1))))), (rn, .inl (G.2.1, 8, .inl (upd rnf n (nI nb1)))), (rt, .inl (G.2.1, 8, .inl (upd rtf n (nI (tr1 + 1))))), (rk, .inl (G.2.1, 96, .inl rk1))]) rfl (fun H locs hw => ?_)
                refine lv_goto (tgt := 16) hx hb dX8_searchRulers_140 (by decide) ?_
                exact ih16 (d0 + 1) ((mark, mark + 1) :: (last, mark + 1) :: t) (upd mf1 d0 (nI mark)) (upd (upd nf1 d0 (nI (mark + 1))) (d0 + 1) (nI (mark + 1))) rk1 nb1 (tr1 + 1) _ _ _ _ _ (by have := mu_push (n := n) (x := last) (x' := last) (t := t) (z := mark) (w := mark + 1) (y := nxt) (y' := mark + 1) (by omega) (by omega) (by omega); omega) (by rw [hd]; rfl) (by simp only [List.length_cons]; omega) (hM2) (okT_p (okT_n hT hd (by omega) (by omega)) (by rw [hd]; rfl) (by omega) (by omega)) (⟨hmm, hS⟩) (okR_try hK) (by rw [coR_go hkk hmk hle hk0 hz] at hR; exact hR) hw (lv_sub hl [4, 5, 6, 0] rfl)
              · have hk0 : k = 0 := i_eq (b := 0) (by omega) (by decide) c116
                refine lv_aload_n hx hb dX8_searchRulers_119 rfl (lv_at hl 3 rfl) ?_
                refine lv_iload_n hx hb dX8_searchRulers_120 rfl (lv_at hl 4 rfl) ?_
                refine xcV (n := 1) (As := [.int (nI n)]) (rest := []) (wc := [(mo, .inr (5, [.ref th, .ref ea, .ref sa, .ref lk, .ref lq, .ref lz, .int lg, .int un, .int tm, .ref rb, .ref rn, .ref rt, .ref rk, .int kr, .ref cb, .ref cm, .ref cu, .ref ck, .int kc, .int se, .int tr, .ref mk, .ref nt, .ref kp, .ref iq, .int ka, .int wr])), (mk, .inl (G.2.1, 12, .inl (upd mf1 d0 (nI mark)))), (rn, .inl (G.2.1, 8, .inl (upd rnf n (nI nb1)))), (rk, .inl (G.2.1, 96, .inl rk1))]) (wr := [(nt, .inl (G.2.1, 12, .inl (upd nf1 d0 (nI (mark + 1))))), (rt, .inl (G.2.1, 8, .inl (upd rtf n (nI (tr1 + 1)))))]) X hw (c_X8_noteRuler l G mo th ea sa lk lq lz rb rn rt rk cb cm cu ck mk nt kp iq lg un tm kr kc se tr ka wr (upd mf1 d0 (nI mark)) rnf rk1 nb1 n (by omega) hn) (C := RX8) gX8_searchRulers_X8_noteRuler (q0 := 0) rfl rfl rfl ⟨rfl, rfl⟩ (by decide +kernel) ⟨by decide, by decide⟩ rfl hl.1 rfl (Nat.le_of_ble_eq_true rfl) dX8_searchRulers_121 ⟨by decide, by decide⟩ [0, 1, 3, 5] [2, 4] rfl rfl rfl rfl (by decide) (fun r w1 H locs hp hw => ?_)
                obtain ⟨rfl, rfl⟩ := hp
                have hw := hw.sub (ws' := [(mo, .inr (5, [.ref th, .ref ea, .ref sa, .ref lk, .ref lq, .ref lz, .int lg, .int un, .int tm, .ref rb, .ref rn, .ref rt, .ref rk, .int kr, .ref cb, .ref cm, .ref cu, .ref ck, .int kc, .int se, .int tr, .ref mk, .ref nt, .ref kp, .ref iq, .int ka, .int wr])), (mk, .inl (G.2.1, 12, .inl (upd mf1 d0 (nI mark)))), (nt, .inl (G.2.1, 12, .inl (upd nf1 d0 (nI (mark + 1))))), (rn, .inl (G.2.1, 8, .inl (upd rnf n (nI (nb1 + 1))))), (rt, .inl (G.2.1, 8, .inl (upd rtf n (nI (tr1 + 1))))), (rk, .inl (G.2.1, 96, .inl (if nI nb1 = 0 then cpy (upd mf1 d0 (nI mark)) rk1 (12 * n) n else rk1)))]) [2, 3, 0, 4, 1, 5] rfl rfl
                refine W.eq (g2 := F0 mt 124 ls []) rfl ?_
                refine lv_goto (tgt := 140) hx hb dX8_searchRulers_124 (by decide) ?_
                refine lv_goto (tgt := 16) hx hb dX8_searchRulers_140 (by decide) ?_
                exact ih16 d0 ((last, mark + 1) :: t) (upd mf1 d0 (nI mark)) (upd nf1 d0 (nI (mark + 1))) (if nI nb1 = 0 then cpy (upd mf1 d0 (nI mark)) rk1 (12 * n) n else rk1) (nb1 + 1) (tr1 + 1) (if nI nb1 = 0 then mkL (last :: msO t) ||| 2 ^ mark else fi1) (if nI nb1 = 0 then mark :: last :: msO t else fl1) _ _ _ (by have := mu_lt (n := n) (x := last) (x' := last) (t := t) (y := nxt) (y' := mark + 1) (by omega) (by omega); omega) (by rw [hd]; rfl) (by simp only [List.length_cons]; omega) (okM_up hM (Nat.le_of_eq hd9)) (okT_n hT hd (by omega) (by omega)) (hS) (okR_add (x := mkL (last :: msO t) ||| 2 ^ mark) (okR_try hK) (by omega) (by simp only [List.length_cons] at hd9 ⊢; omega) hM2) (by rw [coR_end hkk hmk hle hk0 hz] at hR; exact hR) hw (lv_sub hl [3, 4, 5, 6] rfl)
          · have hle : rTo sz k < mark := i_nle (by unfold stR at hmk; split at hmk <;> omega) (by omega) c67
            refine lv_iinc (v := nI t.length) (lv' := [(3, .int (nI t.length)), (6, .int (nI mark)), (5, .int (nI (rTo sz k))), (4, .int (nI k)), (0, .ref mo), (1, .int (nI n)), (2, .int (nI sz))]) hx hb dX8_searchRulers_70 hl (k := 6) rfl (by exact (nI_dec (by omega)).trans (by rw [hd]; rfl)) (by decide) rfl (fun ls hl => ?_)
            refine lv_goto (tgt := 140) hx hb dX8_searchRulers_73 (by decide) ?_
            refine lv_goto (tgt := 16) hx hb dX8_searchRulers_140 (by decide) ?_
            exact ih16 t.length t mf1 nf1 rk1 nb1 tr1 _ _ _ _ _ (by have := mu_pop (n := n) (x := last) (y := nxt) (t := t) (by omega); omega) (rfl) (by omega) (okM_t hM) (hT4) (hS.2) (hK) (by rw [coR_pop (by rw [hkk, hmk]; exact hle)] at hR; exact hR) hw (lv_sub hl [4, 5, 6, 0] rfl)
        refine lv_iload hx hb dX8_searchRulers_36 (lv_at hl 1 rfl) ?_
        refine lv_if_ne (tgt := 55) hx hb dX8_searchRulers_38 (by decide) (fun c38 => ?_) (fun c38 => ?_)
        · have hk0 : k ≠ 0 := fun z => c38 (by rw [z]; rfl)
          refine lv_aload_n hx hb dX8_searchRulers_55 rfl (lv_at hl 2 rfl) ?_
          refine xg X hw (C := RX8) (T := TX8) (N := 27) (by decide +kernel) 0 rfl rfl 22 (by decide) rfl (by decide +kernel) rfl dX8_searchRulers_56 ?_
          refine lv_iload_n hx hb dX8_searchRulers_59 rfl (lv_at hl 5 rfl) ?_
          refine xia X hw 2 rfl (j := d0) (rfl) (by omega) (by decide) dX8_searchRulers_60 ?_
          refine x_cvi (y := nI nxt) (by rw [hd]; exact hT1) ?_
          exact jn61 nxt _ _ _ (by unfold stR; first | (rw [if_neg hk0]; done) | (rw [if_pos hk0]; omega)) hw (lv_sub hl [0, 1, 2, 3, 4, 5] rfl)
        · have hk0 : k = 0 := i_eq (b := 0) (by omega) (by decide) c38
          refine lv_aload_n hx hb dX8_searchRulers_41 rfl (lv_at hl 2 rfl) ?_
          refine xg X hw (C := RX8) (T := TX8) (N := 27) (by decide +kernel) 0 rfl rfl 22 (by decide) rfl (by decide +kernel) rfl dX8_searchRulers_42 ?_
          refine lv_iload_n hx hb dX8_searchRulers_45 rfl (lv_at hl 5 rfl) ?_
          refine xia X hw 2 rfl (j := d0) (rfl) (by omega) (by decide) dX8_searchRulers_46 ?_
          refine x_cvi (y := nI nxt) (by rw [hd]; exact hT1) ?_
          refine lv_iload_n hx hb dX8_searchRulers_47 rfl (lv_at hl 4 rfl) ?_
          refine lv_icmp_ge (tgt := 55) hx hb dX8_searchRulers_48 (by decide) (fun c48 => ?_) (fun c48 => ?_)
          · have h48 : sz ≤ nxt := i_le (by omega) (by omega) c48
            refine lv_aload_n hx hb dX8_searchRulers_55 rfl (lv_at hl 2 rfl) ?_
            refine xg X hw (C := RX8) (T := TX8) (N := 27) (by decide +kernel) 0 rfl rfl 22 (by decide) rfl (by decide +kernel) rfl dX8_searchRulers_56 ?_
            refine lv_iload_n hx hb dX8_searchRulers_59 rfl (lv_at hl 5 rfl) ?_
            refine xia X hw 2 rfl (j := d0) (rfl) (by omega) (by decide) dX8_searchRulers_60 ?_
            refine x_cvi (y := nI nxt) (by rw [hd]; exact hT1) ?_
            exact jn61 nxt _ _ _ (by unfold stR; first | (rw [if_neg hk0]; done) | (rw [if_pos hk0]; omega)) hw (lv_sub hl [0, 1, 2, 3, 4, 5] rfl)
          · have h48 : nxt < sz := i_nle (by omega) (by omega) c48
            refine lv_iload_n hx hb dX8_searchRulers_51 rfl (lv_at hl 4 rfl) ?_
            refine lv_goto (tgt := 61) hx hb dX8_searchRulers_52 (by decide) ?_
            exact jn61 sz _ _ _ (by unfold stR; first | (rw [if_neg hk0]; done) | (rw [if_pos hk0]; omega)) hw (lv_sub hl [0, 1, 2, 3, 4, 5] rfl)
  exact lp16 _ 1 ([(0, 1)]) (upd mf 0 (nI 0)) (upd nf 1 (nI 1)) rkv nb tr0 fi fl _ _ _ (Nat.lt_succ_self _) (rfl) (by simp only [List.length_cons, List.length_nil]; omega) (okM_c (x := 0) (ms := []) (fun j hj => absurd hj (Nat.not_lt_zero _))) (okT_p (st := []) (x := 0) (d := 1) trivial rfl (by decide) (by decide)) (⟨fun y h => (by cases h), trivial⟩) (hK0) (coR_0 hn1 _) hw (lv_sub hl [1, 2, 3, 0] rfl)
