set_option maxHeartbeats 4000000 in
set_option maxRecDepth 100000 in
theorem c_X8_lacking (l : Launch) (G : GG) (mo : Nat) (th : Nat) (ea : Nat) (sa : Nat) (lk : Nat) (lq : Nat) (lz : Nat) (rb : Nat) (rn : Nat) (rt : Nat) (rk : Nat) (cb : Nat) (cm : Nat) (cu : Nat) (ck : Nat) (mk : Nat) (nt : Nat) (kp : Nat) (iq : Nat) (lg : Int32) (un : Int32) (tm : Int32) (kr : Int32) (kc : Int32) (se : Int32) (tr : Int32) (ka : Int32) (wr : Int32) (mf : Nat → Int32) (cf : Nat → Nat) (nn : Nat) (len : Nat) (hM : ∀ j, j < nn → mf j = nI (cf j)) (hcf : ∀ j, j < nn → cf j ≤ 60) (hnn : nn ≤ 12) (hlen : len ≤ 20) : CT l G yX8_lacking wsX8_lacking ({ frames := 0, cells := 0, slots := 0, locals := 0 } : Room) [.ref mo, .int (nI len), .int (nI nn)] [(mo, .inr (5, [.ref th, .ref ea, .ref sa, .ref lk, .ref lq, .ref lz, .int lg, .int un, .int tm, .ref rb, .ref rn, .ref rt, .ref rk, .int kr, .ref cb, .ref cm, .ref cu, .ref ck, .int kc, .int se, .int tr, .ref mk, .ref nt, .ref kp, .ref iq, .int ka, .int wr])), (mk, .inl (G.2.1, 12, .inl mf))] (fun r w => r = some (.int (nI (fb_ct (lkA cf nn) len))) ∧ w = [(mo, .inr (5, [.ref th, .ref ea, .ref sa, .ref lk, .ref lq, .ref lz, .int lg, .int un, .int tm, .ref rb, .ref rn, .ref rt, .ref rk, .int kr, .ref cb, .ref cm, .ref cu, .ref ck, .int kc, .int se, .int tr, .ref mk, .ref nt, .ref kp, .ref iq, .int ka, .int wr])), (mk, .inl (G.2.1, 12, .inl mf))]) 0 0 := by
  refine ct_i (cc := cX8_lacking) (maxL := 8) (by decide +kernel) rfl (Nat.le_of_ble_eq_true rfl) ?_
  intro p e s mt below meth c A Q X hw hret ls hl
  obtain ⟨hx, hb, -⟩ := id X
  have hl : lv_has ls 8 [(0, .ref mo), (1, .int (nI len)), (2, .int (nI nn))] := hl
  refine lv_iconst (v := 0) hx hb dX8_lacking_0 (by decide) ?_
  refine x_cvi (y := nI 0) (by rfl) ?_
  refine lv_istore_n (lv' := [(3, .int (nI 0)), (0, .ref mo), (1, .int (nI len)), (2, .int (nI nn))]) hx hb dX8_lacking_1 rfl hl (by decide) rfl (fun ls hl => ?_)
  refine lv_iconst (v := 1) hx hb dX8_lacking_2 (by decide) ?_
  refine x_cvi (y := nI 1) (by rfl) ?_
  refine lv_istore (lv' := [(4, .int (nI 1)), (3, .int (nI 0)), (0, .ref mo), (1, .int (nI len)), (2, .int (nI nn))]) hx hb dX8_lacking_3 hl (by decide) rfl (fun ls hl => ?_)
  have lp5 : ∀ (fu : Nat) (q : Nat) (a : Nat) (H : Heap) (locs : List Loc) (ls : Array Slot), 22 - q < fu → (1 ≤ q ∧ q ≤ len + 1) → (a = fb_ct (lkA cf nn) (q - 1)) → WS G A s.heap H locs [(mo, .inr (5, [.ref th, .ref ea, .ref sa, .ref lk, .ref lq, .ref lz, .int lg, .int un, .int tm, .ref rb, .ref rn, .ref rt, .ref rk, .int kr, .ref cb, .ref cm, .ref cu, .ref ck, .int kc, .int se, .int tr, .ref mk, .ref nt, .ref kp, .ref iq, .int ka, .int wr])), (mk, .inl (G.2.1, 12, .inl mf))] → lv_has ls 8 [(0, .ref mo), (1, .int (nI len)), (2, .int (nI nn)), (3, .int (nI a)), (4, .int (nI q))] → W p l e ({ frames := 0, cells := 0, slots := 0, locals := 0 } : Room) s mt ([.ref mo, .int (nI len), .int (nI nn)] : List Value).toArray below meth c H locs 0 0 Q (F0 mt 5 ls []) := by
    intro fu
    induction fu with
    | zero =>
      intro q a H locs ls hmu
      exact absurd hmu (Nat.not_lt_zero _)
    | succ fu ih5 =>
      intro q a H locs ls hmu5 hq ha hw hl
      refine lv_iload hx hb dX8_lacking_5 (lv_at hl 4 rfl) ?_
      refine lv_iload_n hx hb dX8_lacking_7 rfl (lv_at hl 1 rfl) ?_
      refine lv_icmp_gt (tgt := 95) hx hb dX8_lacking_8 (by decide) (fun c8 => ?_) (fun c8 => ?_)
      · have hk2 : len < q := i_lt (by omega) (by omega) c8
        refine lv_iload_n hx hb dX8_lacking_95 rfl (lv_at hl 3 rfl) ?_
        refine hret _ _ _ _ _ _ dX8_lacking_96 hw ?_
        exact ⟨congrArg (fun z => some (Value.int z)) (by rw [ha, show q - 1 = len by omega]), rfl⟩
      · have hk2 : q ≤ len := i_nlt (by omega) (by omega) c8
        refine lv_iconst (v := 0) hx hb dX8_lacking_11 (by decide) ?_
        refine x_cvi (y := bi false) (by rfl) ?_
        refine lv_istore (lv' := [(5, .int (bi false)), (0, .ref mo), (1, .int (nI len)), (2, .int (nI nn)), (3, .int (nI a)), (4, .int (nI q))]) hx hb dX8_lacking_12 hl (by decide) rfl (fun ls hl => ?_)
        refine lv_iconst (v := 0) hx hb dX8_lacking_14 (by decide) ?_
        refine x_cvi (y := nI 0) (by rfl) ?_
        refine lv_istore (lv' := [(6, .int (nI 0)), (5, .int (bi false)), (0, .ref mo), (1, .int (nI len)), (2, .int (nI nn)), (3, .int (nI a)), (4, .int (nI q))]) hx hb dX8_lacking_15 hl (by decide) rfl (fun ls hl => ?_)
        have lp17 : ∀ (fu : Nat) (u : Nat) (b2 : Bool) (H : Heap) (locs : List Loc) (ls : Array Slot), 13 - u < fu → (u ≤ nn) → (b2 = an (fun u => an (lkQ cf q u) nn) u) → WS G A s.heap H locs [(mo, .inr (5, [.ref th, .ref ea, .ref sa, .ref lk, .ref lq, .ref lz, .int lg, .int un, .int tm, .ref rb, .ref rn, .ref rt, .ref rk, .int kr, .ref cb, .ref cm, .ref cu, .ref ck, .int kc, .int se, .int tr, .ref mk, .ref nt, .ref kp, .ref iq, .int ka, .int wr])), (mk, .inl (G.2.1, 12, .inl mf))] → lv_has ls 8 [(0, .ref mo), (1, .int (nI len)), (2, .int (nI nn)), (3, .int (nI a)), (4, .int (nI q)), (5, .int (bi b2)), (6, .int (nI u))] → W p l e ({ frames := 0, cells := 0, slots := 0, locals := 0 } : Room) s mt ([.ref mo, .int (nI len), .int (nI nn)] : List Value).toArray below meth c H locs 0 0 Q (F0 mt 17 ls []) := by
          intro fu
          induction fu with
          | zero =>
            intro u b2 H locs ls hmu
            exact absurd hmu (Nat.not_lt_zero _)
          | succ fu ih17 =>
            intro u b2 H locs ls hmu17 hu hb1 hw hl
            refine lv_iload hx hb dX8_lacking_17 (lv_at hl 6 rfl) ?_
            refine lv_iload_n hx hb dX8_lacking_19 rfl (lv_at hl 2 rfl) ?_
            refine lv_icmp_ge (tgt := 76) hx hb dX8_lacking_20 (by decide) (fun c20 => ?_) (fun c20 => ?_)
            · have hk3 : nn ≤ u := i_le (by omega) (by omega) c20
              refine lv_iload_n hx hb dX8_lacking_76 rfl (lv_at hl 3 rfl) ?_
              refine lv_iload hx hb dX8_lacking_77 (lv_at hl 5 rfl) ?_
              refine lv_if_eq (tgt := 86) hx hb dX8_lacking_79 (by decide) (fun c79 => ?_) (fun c79 => ?_)
              · have h79 := bi_f c79
                refine lv_iconst (v := 1) hx hb dX8_lacking_86 (by decide) ?_
                refine lv_iadd hx hb dX8_lacking_87 ?_
                refine x_cvi (y := nI (fb_ct (lkA cf nn) q)) (by exact lk_y hq.1 ha h79 hb1 (by omega)) ?_
                refine lv_istore_n (lv' := [(3, .int (nI (fb_ct (lkA cf nn) q))), (0, .ref mo), (1, .int (nI len)), (2, .int (nI nn)), (4, .int (nI q)), (5, .int (bi b2)), (6, .int (nI u))]) hx hb dX8_lacking_88 rfl hl (by decide) rfl (fun ls hl => ?_)
                refine lv_iinc (v := nI (q + 1)) (lv' := [(4, .int (nI (q + 1))), (3, .int (nI (fb_ct (lkA cf nn) q))), (0, .ref mo), (1, .int (nI len)), (2, .int (nI nn)), (5, .int (bi b2)), (6, .int (nI u))]) hx hb dX8_lacking_89 hl (k := 4) rfl (by exact nI_1 _) (by decide) rfl (fun ls hl => ?_)
                refine lv_goto (tgt := 5) hx hb dX8_lacking_92 (by decide) ?_
                exact ih5 (q + 1) (fb_ct (lkA cf nn) q) _ _ _ (by omega) (by omega) (by rw [Nat.add_sub_cancel]) hw (lv_sub hl [2, 3, 4, 1, 0] rfl)
              · have h79 := bi_t c79
                refine lv_iconst (v := 0) hx hb dX8_lacking_82 (by decide) ?_
                refine lv_goto (tgt := 87) hx hb dX8_lacking_83 (by decide) ?_
                refine lv_iadd hx hb dX8_lacking_87 ?_
                refine x_cvi (y := nI (fb_ct (lkA cf nn) q)) (by exact lk_n hq.1 ha h79 hb1 (by omega)) ?_
                refine lv_istore_n (lv' := [(3, .int (nI (fb_ct (lkA cf nn) q))), (0, .ref mo), (1, .int (nI len)), (2, .int (nI nn)), (4, .int (nI q)), (5, .int (bi b2)), (6, .int (nI u))]) hx hb dX8_lacking_88 rfl hl (by decide) rfl (fun ls hl => ?_)
                refine lv_iinc (v := nI (q + 1)) (lv' := [(4, .int (nI (q + 1))), (3, .int (nI (fb_ct (lkA cf nn) q))), (0, .ref mo), (1, .int (nI len)), (2, .int (nI nn)), (5, .int (bi b2)), (6, .int (nI u))]) hx hb dX8_lacking_89 hl (k := 4) rfl (by exact nI_1 _) (by decide) rfl (fun ls hl => ?_)
                refine lv_goto (tgt := 5) hx hb dX8_lacking_92 (by decide) ?_
                exact ih5 (q + 1) (fb_ct (lkA cf nn) q) _ _ _ (by omega) (by omega) (by rw [Nat.add_sub_cancel]) hw (lv_sub hl [2, 3, 4, 1, 0] rfl)
            · have hk3 : u < nn := i_nle (by omega) (by omega) c20
              refine lv_iconst (v := 0) hx hb dX8_lacking_23 (by decide) ?_
              refine x_cvi (y := nI 0) (by rfl) ?_
              refine lv_istore (lv' := [(7, .int (nI 0)), (0, .ref mo), (1, .int (nI len)), (2, .int (nI nn)), (3, .int (nI a)), (4, .int (nI q)), (5, .int (bi b2)), (6, .int (nI u))]) hx hb dX8_lacking_24 hl (by decide) rfl (fun ls hl => ?_)
              have lp26 : ∀ (fu : Nat) (v1 : Nat) (b3 : Bool) (H : Heap) (locs : List Loc) (ls : Array Slot), 13 - v1 < fu → (v1 ≤ nn) → (b3 = (b2 || an (lkQ cf q u) v1)) → WS G A s.heap H locs [(mo, .inr (5, [.ref th, .ref ea, .ref sa, .ref lk, .ref lq, .ref lz, .int lg, .int un, .int tm, .ref rb, .ref rn, .ref rt, .ref rk, .int kr, .ref cb, .ref cm, .ref cu, .ref ck, .int kc, .int se, .int tr, .ref mk, .ref nt, .ref kp, .ref iq, .int ka, .int wr])), (mk, .inl (G.2.1, 12, .inl mf))] → lv_has ls 8 [(0, .ref mo), (1, .int (nI len)), (2, .int (nI nn)), (3, .int (nI a)), (4, .int (nI q)), (5, .int (bi b3)), (6, .int (nI u)), (7, .int (nI v1))] → W p l e ({ frames := 0, cells := 0, slots := 0, locals := 0 } : Room) s mt ([.ref mo, .int (nI len), .int (nI nn)] : List Value).toArray below meth c H locs 0 0 Q (F0 mt 26 ls []) := by
                intro fu
                induction fu with
                | zero =>
                  intro v1 b3 H locs ls hmu
                  exact absurd hmu (Nat.not_lt_zero _)
                | succ fu ih26 =>
                  intro v1 b3 H locs ls hmu26 hv hb3 hw hl
                  refine lv_iload hx hb dX8_lacking_26 (lv_at hl 7 rfl) ?_
                  refine lv_iload_n hx hb dX8_lacking_28 rfl (lv_at hl 2 rfl) ?_
                  refine lv_icmp_ge (tgt := 70) hx hb dX8_lacking_29 (by decide) (fun c29 => ?_) (fun c29 => ?_)
                  · have hk4 : nn ≤ v1 := i_le (by omega) (by omega) c29
                    refine lv_iinc (v := nI (u + 1)) (lv' := [(6, .int (nI (u + 1))), (0, .ref mo), (1, .int (nI len)), (2, .int (nI nn)), (3, .int (nI a)), (4, .int (nI q)), (5, .int (bi b3)), (7, .int (nI v1))]) hx hb dX8_lacking_70 hl (k := 6) rfl (by exact nI_1 _) (by decide) rfl (fun ls hl => ?_)
                    refine lv_goto (tgt := 17) hx hb dX8_lacking_73 (by decide) ?_
                    exact ih17 (u + 1) b3 _ _ _ (by omega) (by omega) (by rw [an_s, hb3, hb1, show v1 = nn by omega]) hw (lv_sub hl [1, 2, 3, 4, 5, 6, 0] rfl)
                  · have hk4 : v1 < nn := i_nle (by omega) (by omega) c29
                    have ho1 := hcf u hk3
                    have ho2 := hcf v1 hk4
                    refine lv_iload hx hb dX8_lacking_32 (lv_at hl 5 rfl) ?_
                    refine lv_if_ne (tgt := 57) hx hb dX8_lacking_34 (by decide) (fun c34 => ?_) (fun c34 => ?_)
                    · have h34 := bi_t c34
                      refine lv_iconst (v := 1) hx hb dX8_lacking_57 (by decide) ?_
                      refine x_cvi (y := bi (b3 || lkQ cf q u v1)) (by first | (rw [h34]; rfl) | (rw [show lkQ cf q u v1 = true by unfold lkQ; simp [h54], Bool.or_true]; rfl)) ?_
                      refine lv_goto (tgt := 62) hx hb dX8_lacking_58 (by decide) ?_
                      refine lv_istore (lv' := [(5, .int (bi (b3 || lkQ cf q u v1))), (0, .ref mo), (1, .int (nI len)), (2, .int (nI nn)), (3, .int (nI a)), (4, .int (nI q)), (6, .int (nI u)), (7, .int (nI v1))]) hx hb dX8_lacking_62 hl (by decide) rfl (fun ls hl => ?_)
                      refine lv_iinc (v := nI (v1 + 1)) (lv' := [(7, .int (nI (v1 + 1))), (5, .int (bi (b3 || lkQ cf q u v1))), (0, .ref mo), (1, .int (nI len)), (2, .int (nI nn)), (3, .int (nI a)), (4, .int (nI q)), (6, .int (nI u))]) hx hb dX8_lacking_64 hl (k := 7) rfl (by exact nI_1 _) (by decide) rfl (fun ls hl => ?_)
                      refine lv_goto (tgt := 26) hx hb dX8_lacking_67 (by decide) ?_
                      exact ih26 (v1 + 1) (b3 || lkQ cf q u v1) _ _ _ (by omega) (by omega) (by rw [an_s, hb3, Bool.or_assoc]) hw (lv_sub hl [2, 3, 4, 5, 6, 1, 7, 0] rfl)
                    · have h34 := bi_f c34
                      refine lv_aload_n hx hb dX8_lacking_37 rfl (lv_at hl 0 rfl) ?_
                      refine xg X hw (C := RX8) (T := TX8) (N := 27) (by decide +kernel) 0 rfl rfl 21 (by decide) rfl (by decide +kernel) rfl dX8_lacking_38 ?_
                      refine lv_iload hx hb dX8_lacking_41 (lv_at hl 6 rfl) ?_
                      refine xia X hw 1 rfl (j := u) (rfl) (by omega) (by decide) dX8_lacking_43 ?_
                      refine x_cvi (y := nI (cf u)) (by exact hM u (by omega)) ?_
                      refine lv_aload_n hx hb dX8_lacking_44 rfl (lv_at hl 0 rfl) ?_
                      refine xg X hw (C := RX8) (T := TX8) (N := 27) (by decide +kernel) 0 rfl rfl 21 (by decide) rfl (by decide +kernel) rfl dX8_lacking_45 ?_
                      refine lv_iload hx hb dX8_lacking_48 (lv_at hl 7 rfl) ?_
                      refine xia X hw 1 rfl (j := v1) (rfl) (by omega) (by decide) dX8_lacking_50 ?_
                      refine x_cvi (y := nI (cf v1)) (by exact hM v1 (by omega)) ?_
                      refine lv_isub hx hb dX8_lacking_51 ?_
                      refine lv_iload hx hb dX8_lacking_52 (lv_at hl 4 rfl) ?_
                      refine lv_icmp_ne (tgt := 61) hx hb dX8_lacking_54 (by decide) (fun c54 => ?_) (fun c54 => ?_)
                      · have h54 : ¬ cf u = cf v1 + q := fun z => c54 ((sub_is (by omega) (by omega) (by omega)).mpr z)
                        refine lv_iconst (v := 0) hx hb dX8_lacking_61 (by decide) ?_
                        refine x_cvi (y := bi (b3 || lkQ cf q u v1)) (by rw [h34, show lkQ cf q u v1 = false by unfold lkQ; simp [h54]]; rfl) ?_
                        refine lv_istore (lv' := [(5, .int (bi (b3 || lkQ cf q u v1))), (0, .ref mo), (1, .int (nI len)), (2, .int (nI nn)), (3, .int (nI a)), (4, .int (nI q)), (6, .int (nI u)), (7, .int (nI v1))]) hx hb dX8_lacking_62 hl (by decide) rfl (fun ls hl => ?_)
                        refine lv_iinc (v := nI (v1 + 1)) (lv' := [(7, .int (nI (v1 + 1))), (5, .int (bi (b3 || lkQ cf q u v1))), (0, .ref mo), (1, .int (nI len)), (2, .int (nI nn)), (3, .int (nI a)), (4, .int (nI q)), (6, .int (nI u))]) hx hb dX8_lacking_64 hl (k := 7) rfl (by exact nI_1 _) (by decide) rfl (fun ls hl => ?_)
                        refine lv_goto (tgt := 26) hx hb dX8_lacking_67 (by decide) ?_
                        exact ih26 (v1 + 1) (b3 || lkQ cf q u v1) _ _ _ (by omega) (by omega) (by rw [an_s, hb3, Bool.or_assoc]) hw (lv_sub hl [2, 3, 4, 5, 6, 1, 7, 0] rfl)
                      · have h54 : cf u = cf v1 + q := (sub_is (by omega) (by omega) (by omega)).mp c54
                        refine lv_iconst (v := 1) hx hb dX8_lacking_57 (by decide) ?_
                        refine x_cvi (y := bi (b3 || lkQ cf q u v1)) (by first | (rw [h34]; rfl) | (rw [show lkQ cf q u v1 = true by unfold lkQ; simp [h54], Bool.or_true]; rfl)) ?_
                        refine lv_goto (tgt := 62) hx hb dX8_lacking_58 (by decide) ?_
                        refine lv_istore (lv' := [(5, .int (bi (b3 || lkQ cf q u v1))), (0, .ref mo), (1, .int (nI len)), (2, .int (nI nn)), (3, .int (nI a)), (4, .int (nI q)), (6, .int (nI u)), (7, .int (nI v1))]) hx hb dX8_lacking_62 hl (by decide) rfl (fun ls hl => ?_)
                        refine lv_iinc (v := nI (v1 + 1)) (lv' := [(7, .int (nI (v1 + 1))), (5, .int (bi (b3 || lkQ cf q u v1))), (0, .ref mo), (1, .int (nI len)), (2, .int (nI nn)), (3, .int (nI a)), (4, .int (nI q)), (6, .int (nI u))]) hx hb dX8_lacking_64 hl (k := 7) rfl (by exact nI_1 _) (by decide) rfl (fun ls hl => ?_)
                        refine lv_goto (tgt := 26) hx hb dX8_lacking_67 (by decide) ?_
                        exact ih26 (v1 + 1) (b3 || lkQ cf q u v1) _ _ _ (by omega) (by omega) (by rw [an_s, hb3, Bool.or_assoc]) hw (lv_sub hl [2, 3, 4, 5, 6, 1, 7, 0] rfl)
              exact lp26 _ 0 b2 _ _ _ (Nat.lt_succ_self _) (by omega) (by show _ = (_ || false); rw [Bool.or_false]) hw (lv_sub hl [1, 2, 3, 4, 5, 6, 7, 0] rfl)
        exact lp17 _ 0 false _ _ _ (Nat.lt_succ_self _) (by omega) (rfl) hw (lv_sub hl [2, 3, 4, 5, 6, 1, 0] rfl)
  exact lp5 _ 1 0 _ _ _ (Nat.lt_succ_self _) (by omega) (rfl) hw (lv_sub hl [2, 3, 4, 1, 0] rfl)

set_option maxHeartbeats 4000000 in
set_option maxRecDepth 100000 in
theorem c_X8_noteCover (l : Launch) (G : GG) (mo : Nat) (th : Nat) (ea : Nat) (sa : Nat) (lk : Nat) (lq : Nat) (lz : Nat) (rb : Nat) (rn : Nat) (rt : Nat) (rk : Nat) (cb : Nat) (cm : Nat) (cu : Nat) (ck : Nat) (mk : Nat) (nt : Nat) (kp : Nat) (iq : Nat) (lg : Int32) (un : Int32) (tm : Int32) (kr : Int32) (kc : Int32) (se : Int32) (tr : Int32) (ka : Int32) (wr : Int32) (mf : Nat → Int32) (cmf : Nat → Int32) (rkv : Nat → Int32) (nb : Nat) (len : Nat) (n : Nat) (hlen : len ≤ 20) (hn1 : 2 ≤ n) (hn : n ≤ 12) : CT l G yX8_noteCover wsX8_noteCover ({ frames := 0, cells := 0, slots := 0, locals := 0 } : Room) [.ref mo, .int (nI len), .int (nI n)] [(mo, .inr (5, [.ref th, .ref ea, .ref sa, .ref lk, .ref lq, .ref lz, .int lg, .int un, .int tm, .ref rb, .ref rn, .ref rt, .ref rk, .int kr, .ref cb, .ref cm, .ref cu, .ref ck, .int kc, .int se, .int tr, .ref mk, .ref nt, .ref kp, .ref iq, .int ka, .int wr])), (mk, .inl (G.2.1, 12, .inl mf)), (cm, .inl (G.2.1, 21, .inl (upd cmf len (nI nb)))), (ck, .inl (G.2.1, 252, .inl rkv))] (fun r w => r = none ∧ w = [(mo, .inr (5, [.ref th, .ref ea, .ref sa, .ref lk, .ref lq, .ref lz, .int lg, .int un, .int tm, .ref rb, .ref rn, .ref rt, .ref rk, .int kr, .ref cb, .ref cm, .ref cu, .ref ck, .int kc, .int se, .int tr, .ref mk, .ref nt, .ref kp, .ref iq, .int ka, .int wr])), (mk, .inl (G.2.1, 12, .inl mf)), (cm, .inl (G.2.1, 21, .inl (upd cmf len (nI (nb + 1))))), (ck, .inl (G.2.1, 252, .inl (if nI nb = 0 then cpy (cvf len n mf) rkv (12 * len) n else rkv)))]) 0 0 := by
  refine ct_v (cc := cX8_noteCover) (maxL := 4) (by decide +kernel) rfl (Nat.le_of_ble_eq_true rfl) ?_
  intro p e s mt below meth c A Q X hw hret ls hl
  obtain ⟨hx, hb, -⟩ := id X
  have hl : lv_has ls 4 [(0, .ref mo), (1, .int (nI len)), (2, .int (nI n))] := hl
  refine lv_iconst (v := 0) hx hb dX8_noteCover_0 (by decide) ?_
  refine x_cvi (y := nI 0) (by rfl) ?_
  refine lv_istore_n (lv' := [(3, .int (nI 0)), (0, .ref mo), (1, .int (nI len)), (2, .int (nI n))]) hx hb dX8_noteCover_1 rfl hl (by decide) rfl (fun ls hl => ?_)
  have lp2 : ∀ (fu : Nat) (k : Nat) (H : Heap) (locs : List Loc) (ls : Array Slot), 13 - k < fu → (k ≤ n) → (k ≠ 0 → nI nb = 0) → WS G A s.heap H locs [(mo, .inr (5, [.ref th, .ref ea, .ref sa, .ref lk, .ref lq, .ref lz, .int lg, .int un, .int tm, .ref rb, .ref rn, .ref rt, .ref rk, .int kr, .ref cb, .ref cm, .ref cu, .ref ck, .int kc, .int se, .int tr, .ref mk, .ref nt, .ref kp, .ref iq, .int ka, .int wr])), (mk, .inl (G.2.1, 12, .inl mf)), (cm, .inl (G.2.1, 21, .inl (upd cmf len (nI nb)))), (ck, .inl (G.2.1, 252, .inl (cpy (cvf len n mf) rkv (12 * len) k)))] → lv_has ls 4 [(0, .ref mo), (1, .int (nI len)), (2, .int (nI n)), (3, .int (nI k))] → W p l e ({ frames := 0, cells := 0, slots := 0, locals := 0 } : Room) s mt ([.ref mo, .int (nI len), .int (nI n)] : List Value).toArray below meth c H locs 0 0 Q (F0 mt 2 ls []) := by
    intro fu
    induction fu with
    | zero =>
      intro k H locs ls hmu
      exact absurd hmu (Nat.not_lt_zero _)
    | succ fu ih2 =>
      intro k H locs ls hmu2 hk hz hw hl
      refine lv_iload_n hx hb dX8_noteCover_2 rfl (lv_at hl 3 rfl) ?_
      refine lv_iload_n hx hb dX8_noteCover_3 rfl (lv_at hl 2 rfl) ?_
      refine lv_icmp_ge (tgt := 60) hx hb dX8_noteCover_4 (by decide) (fun c4 => ?_) (fun c4 => ?_)
      · have hk2 : n ≤ k := i_le (by omega) (by omega) c4
        refine lv_aload_n hx hb dX8_noteCover_60 rfl (lv_at hl 0 rfl) ?_
        refine xg X hw (C := RX8) (T := TX8) (N := 27) (by decide +kernel) 0 rfl rfl 15 (by decide) rfl (by decide +kernel) rfl dX8_noteCover_61 ?_
        refine lv_iload_n hx hb dX8_noteCover_64 rfl (lv_at hl 1 rfl) ?_
        refine lv_dup2_11 hx hb dX8_noteCover_65 rfl rfl ?_
        refine xia X hw 2 rfl (j := len) (rfl) (by omega) (by decide) dX8_noteCover_66 ?_
        refine x_cvi (y := nI nb) (by exact upd_at _ _ _) ?_
        refine lv_iconst (v := 1) hx hb dX8_noteCover_67 (by decide) ?_
        refine lv_iadd hx hb dX8_noteCover_68 ?_
        refine x_cvi (y := nI (nb + 1)) (by exact nI_1 _) ?_
        refine xis X hw 2 rfl (j := len) (rfl) (by omega) (by decide) dX8_noteCover_69 (ws' := [(mo, .inr (5, [.ref th, .ref ea, .ref sa, .ref lk, .ref lq, .ref lz, .int lg, .int un, .int tm, .ref rb, .ref rn, .ref rt, .ref rk, .int kr, .ref cb, .ref cm, .ref cu, .ref ck, .int kc, .int se, .int tr, .ref mk, .ref nt, .ref kp, .ref iq, .int ka, .int wr])), (mk, .inl (G.2.1, 12, .inl mf)), (cm, .inl (G.2.1, 21, .inl (upd (upd cmf len (nI nb)) len (nI (nb + 1))))), (ck, .inl (G.2.1, 252, .inl (cpy (cvf len n mf) rkv (12 * len) k)))]) rfl (fun H locs hw => ?_)
        rw [fa_upd_twice] at hw
        refine hret _ _ _ _ _ dX8_noteCover_70 hw ?_
        exact ⟨rfl, by rw [nc_end hk hz (by omega) (by first | exact Or.inl (by omega) | exact Or.inr c13)]⟩
      · have hk2 : k < n := i_nle (by omega) (by omega) c4
        refine lv_aload_n hx hb dX8_noteCover_7 rfl (lv_at hl 0 rfl) ?_
        refine xg X hw (C := RX8) (T := TX8) (N := 27) (by decide +kernel) 0 rfl rfl 15 (by decide) rfl (by decide +kernel) rfl dX8_noteCover_8 ?_
        refine lv_iload_n hx hb dX8_noteCover_11 rfl (lv_at hl 1 rfl) ?_
        refine xia X hw 2 rfl (j := len) (rfl) (by omega) (by decide) dX8_noteCover_12 ?_
        refine x_cvi (y := nI nb) (by exact upd_at _ _ _) ?_
        refine lv_if_ne (tgt := 60) hx hb dX8_noteCover_13 (by decide) (fun c13 => ?_) (fun c13 => ?_)
        · refine lv_aload_n hx hb dX8_noteCover_60 rfl (lv_at hl 0 rfl) ?_
          refine xg X hw (C := RX8) (T := TX8) (N := 27) (by decide +kernel) 0 rfl rfl 15 (by decide) rfl (by decide +kernel) rfl dX8_noteCover_61 ?_
          refine lv_iload_n hx hb dX8_noteCover_64 rfl (lv_at hl 1 rfl) ?_
          refine lv_dup2_11 hx hb dX8_noteCover_65 rfl rfl ?_
          refine xia X hw 2 rfl (j := len) (rfl) (by omega) (by decide) dX8_noteCover_66 ?_
          refine x_cvi (y := nI nb) (by exact upd_at _ _ _) ?_
          refine lv_iconst (v := 1) hx hb dX8_noteCover_67 (by decide) ?_
          refine lv_iadd hx hb dX8_noteCover_68 ?_
          refine x_cvi (y := nI (nb + 1)) (by exact nI_1 _) ?_
          refine xis X hw 2 rfl (j := len) (rfl) (by omega) (by decide) dX8_noteCover_69 (ws' := [(mo, .inr (5, [.ref th, .ref ea, .ref sa, .ref lk, .ref lq, .ref lz, .int lg, .int un, .int tm, .ref rb, .ref rn, .ref rt, .ref rk, .int kr, .ref cb, .ref cm, .ref cu, .ref ck, .int kc, .int se, .int tr, .ref mk, .ref nt, .ref kp, .ref iq, .int ka, .int wr])), (mk, .inl (G.2.1, 12, .inl mf)), (cm, .inl (G.2.1, 21, .inl (upd (upd cmf len (nI nb)) len (nI (nb + 1))))), (ck, .inl (G.2.1, 252, .inl (cpy (cvf len n mf) rkv (12 * len) k)))]) rfl (fun H locs hw => ?_)
          rw [fa_upd_twice] at hw
          refine hret _ _ _ _ _ dX8_noteCover_70 hw ?_
          exact ⟨rfl, by rw [nc_end hk hz (by omega) (by first | exact Or.inl (by omega) | exact Or.inr c13)]⟩
        · refine lv_aload_n hx hb dX8_noteCover_16 rfl (lv_at hl 0 rfl) ?_
          refine xg X hw (C := RX8) (T := TX8) (N := 27) (by decide +kernel) 0 rfl rfl 17 (by decide) rfl (by decide +kernel) rfl dX8_noteCover_17 ?_
          refine lv_bipush (v := 12) hx hb dX8_noteCover_20 (by decide) ?_
          refine lv_iload_n hx hb dX8_noteCover_22 rfl (lv_at hl 1 rfl) ?_
          refine lv_imul hx hb dX8_noteCover_23 ?_
          refine x_cvi (y := nI (12 * len)) (by exact pk_mul 12 len) ?_
          refine lv_iload_n hx hb dX8_noteCover_24 rfl (lv_at hl 3 rfl) ?_
          refine lv_iadd hx hb dX8_noteCover_25 ?_
          refine x_cvi (y := nI (12 * len + k)) (by exact nI_add _ _) ?_
          refine lv_iload_n hx hb dX8_noteCover_26 rfl (lv_at hl 3 rfl) ?_
          refine lv_if_ne (tgt := 34) hx hb dX8_noteCover_27 (by decide) (fun c27 => ?_) (fun c27 => ?_)
          · have h27 : ¬ k = 0 := fun z => c27 (by rw [z]; rfl)
            refine lv_iload_n hx hb dX8_noteCover_34 rfl (lv_at hl 3 rfl) ?_
            refine lv_iload_n hx hb dX8_noteCover_35 rfl (lv_at hl 2 rfl) ?_
            refine lv_iconst (v := 1) hx hb dX8_noteCover_36 (by decide) ?_
            refine lv_isub hx hb dX8_noteCover_37 ?_
            refine x_cvi (y := nI (n - 1)) (by exact pk_sub (b := 1) (by omega)) ?_
            refine lv_icmp_ne (tgt := 45) hx hb dX8_noteCover_38 (by decide) (fun c38 => ?_) (fun c38 => ?_)
            · have h38 : ¬ k = n - 1 := i_ne c38
              refine lv_aload_n hx hb dX8_noteCover_45 rfl (lv_at hl 0 rfl) ?_
              refine xg X hw (C := RX8) (T := TX8) (N := 27) (by decide +kernel) 0 rfl rfl 21 (by decide) rfl (by decide +kernel) rfl dX8_noteCover_46 ?_
              refine lv_iload_n hx hb dX8_noteCover_49 rfl (lv_at hl 3 rfl) ?_
              refine lv_iconst (v := 1) hx hb dX8_noteCover_50 (by decide) ?_
              refine lv_iadd hx hb dX8_noteCover_51 ?_
              refine x_cvi (y := nI (k + 1)) (by exact nI_1 _) ?_
              refine xia X hw 1 rfl (j := (k + 1)) (rfl) (by omega) (by decide) dX8_noteCover_52 ?_
              refine x_cvi (y := cvf len n mf k) (by unfold cvf; rw [if_neg h27, if_neg h38]) ?_
              refine xis X hw 3 rfl (j := (12 * len + k)) (rfl) (by omega) (by decide) dX8_noteCover_53 (ws' := [(mo, .inr (5, [.ref th, .ref ea, .ref sa, .ref lk, .ref lq, .ref lz, .int lg, .int un, .int tm, .ref rb, .ref rn, .ref rt, .ref rk, .int kr, .ref cb, .ref cm, .ref cu, .ref ck, .int kc, .int se, .int tr, .ref mk, .ref nt, .ref kp, .ref iq, .int ka, .int wr])), (mk, .inl (G.2.1, 12, .inl mf)), (cm, .inl (G.2.1, 21, .inl (upd cmf len (nI nb)))), (ck, .inl (G.2.1, 252, .inl (upd (cpy (cvf len n mf) rkv (12 * len) k) (12 * len + k) (cvf len n mf k))))]) rfl (fun H locs hw => ?_)
              rw [cpy_up] at hw
              refine lv_iinc (v := nI (k + 1)) (lv' := [(3, .int (nI (k + 1))), (0, .ref mo), (1, .int (nI len)), (2, .int (nI n))]) hx hb dX8_noteCover_54 hl (k := 3) rfl (by exact nI_1 _) (by decide) rfl (fun ls hl => ?_)
              refine lv_goto (tgt := 2) hx hb dX8_noteCover_57 (by decide) ?_
              exact ih2 (k + 1) _ _ _ (by omega) (by omega) (fun _ => c13) hw (lv_sub hl [1, 2, 3, 0] rfl)
            · have h38 : k = n - 1 := i_eq (by omega) (by omega) c38
              refine lv_iload_n hx hb dX8_noteCover_41 rfl (lv_at hl 1 rfl) ?_
              refine x_cvi (y := cvf len n mf k) (by unfold cvf; rw [if_neg h27, if_pos h38]) ?_
              refine lv_goto (tgt := 53) hx hb dX8_noteCover_42 (by decide) ?_
              refine xis X hw 3 rfl (j := (12 * len + k)) (rfl) (by omega) (by decide) dX8_noteCover_53 (ws' := [(mo, .inr (5, [.ref th, .ref ea, .ref sa, .ref lk, .ref lq, .ref lz, .int lg, .int un, .int tm, .ref rb, .ref rn, .ref rt, .ref rk, .int kr, .ref cb, .ref cm, .ref cu, .ref ck, .int kc, .int se, .int tr, .ref mk, .ref nt, .ref kp, .ref iq, .int ka, .int wr])), (mk, .inl (G.2.1, 12, .inl mf)), (cm, .inl (G.2.1, 21, .inl (upd cmf len (nI nb)))), (ck, .inl (G.2.1, 252, .inl (upd (cpy (cvf len n mf) rkv (12 * len) k) (12 * len + k) (cvf len n mf k))))]) rfl (fun H locs hw => ?_)
              rw [cpy_up] at hw
              refine lv_iinc (v := nI (k + 1)) (lv' := [(3, .int (nI (k + 1))), (0, .ref mo), (1, .int (nI len)), (2, .int (nI n))]) hx hb dX8_noteCover_54 hl (k := 3) rfl (by exact nI_1 _) (by decide) rfl (fun ls hl => ?_)
              refine lv_goto (tgt := 2) hx hb dX8_noteCover_57 (by decide) ?_
              exact ih2 (k + 1) _ _ _ (by omega) (by omega) (fun _ => c13) hw (lv_sub hl [1, 2, 3, 0] rfl)
          · have h27 : k = 0 := i_eq (b := 0) (by omega) (by decide) c27
            refine lv_iconst (v := 0) hx hb dX8_noteCover_30 (by decide) ?_
            refine x_cvi (y := cvf len n mf k) (by unfold cvf; rw [if_pos h27]) ?_
            refine lv_goto (tgt := 53) hx hb dX8_noteCover_31 (by decide) ?_
            refine xis X hw 3 rfl (j := (12 * len + k)) (rfl) (by omega) (by decide) dX8_noteCover_53 (ws' := [(mo, .inr (5, [.ref th, .ref ea, .ref sa, .ref lk, .ref lq, .ref lz, .int lg, .int un, .int tm, .ref rb, .ref rn, .ref rt, .ref rk, .int kr, .ref cb, .ref cm, .ref cu, .ref ck, .int kc, .int se, .int tr, .ref mk, .ref nt, .ref kp, .ref iq, .int ka, .int wr])), (mk, .inl (G.2.1, 12, .inl mf)), (cm, .inl (G.2.1, 21, .inl (upd cmf len (nI nb)))), (ck, .inl (G.2.1, 252, .inl (upd (cpy (cvf len n mf) rkv (12 * len) k) (12 * len + k) (cvf len n mf k))))]) rfl (fun H locs hw => ?_)
            rw [cpy_up] at hw
            refine lv_iinc (v := nI (k + 1)) (lv' := [(3, .int (nI (k + 1))), (0, .ref mo), (1, .int (nI len)), (2, .int (nI n))]) hx hb dX8_noteCover_54 hl (k := 3) rfl (by exact nI_1 _) (by decide) rfl (fun ls hl => ?_)
            refine lv_goto (tgt := 2) hx hb dX8_noteCover_57 (by decide) ?_
            exact ih2 (k + 1) _ _ _ (by omega) (by omega) (fun _ => c13) hw (lv_sub hl [1, 2, 3, 0] rfl)
  have hw : WS G A s.heap s.heap [] [(mo, .inr (5, [.ref th, .ref ea, .ref sa, .ref lk, .ref lq, .ref lz, .int lg, .int un, .int tm, .ref rb, .ref rn, .ref rt, .ref rk, .int kr, .ref cb, .ref cm, .ref cu, .ref ck, .int kc, .int se, .int tr, .ref mk, .ref nt, .ref kp, .ref iq, .int ka, .int wr])), (mk, .inl (G.2.1, 12, .inl mf)), (cm, .inl (G.2.1, 21, .inl (upd cmf len (nI nb)))), (ck, .inl (G.2.1, 252, .inl (cpy (cvf len n mf) rkv (12 * len) 0)))] := by rw [cpy_0]; exact hw
  exact lp2 _ 0 _ _ _ (Nat.lt_succ_self _) (by omega) (fun h => absurd rfl h) hw (lv_sub hl [1, 2, 3, 0] rfl)
