/-! The law: the shortest rulers. -/
set_option maxHeartbeats 4000000 in
set_option maxRecDepth 100000 in
theorem law_b1 {p : Program} {l : Launch} {e : Env} {s : State} {mt : MethodId} {z : Nat} {below : List Frame} {meth : Method} {c : Code} {G : GG} {nm : String} {Q : State → Prop} {a ar ac : Nat → Nat} {L : Nat} {xs : Nat → Int32} {m : Nat} {er sk : Nat → Int32} {lg : List (Nat × Int32)} {im : Nat × (Nat → Int32) × (Nat → Int32) × Int32} {un tp fr : Nat} (X : CX p s mt meth c #[Value.ref z] G wsL_law RL cL_law 16 nm (fun q => s.heap.size ≤ q)) (hX : va_X z L xs s s.heap) (hbl : z < s.heap.size) (hLe : L ≤ 260) (hfr : fr < 6) (K : ∀ (H : Heap) (locs : List Loc) (ls : Array Slot), StD s G a ar ac (m, er, sk, lg, im, un, tp, krF fr 12, 0) H locs → lv_has ls 16 [(4, .int (nI 12)), (3, .int (nI (ttR (krF fr 12)))), (2, .int (nI fr)), (1, .ref (a 0)), (0, .ref z)] → W p l e room_1 s mt #[Value.ref z] below meth c H locs 46 602 Q (F0 mt 259 ls [])) : ∀ (r i : Nat), i + r = 12 → ∀ (H : Heap) (locs : List Loc) (ls : Array Slot), StD s G a ar ac (m, er, sk, lg, im, un, tp, krF fr i, 0) H locs → lv_has ls 16 [(4, .int (nI i)), (3, .int (nI (ttR (krF fr i)))), (2, .int (nI fr)), (1, .ref (a 0)), (0, .ref z)] → W p l e room_1 s mt #[Value.ref z] below meth c H locs 46 602 Q (F0 mt 21 ls []) := by
  obtain ⟨hx, hb, -⟩ := id X
  intro r
  induction r with
  | zero =>
    intro i e0 H locs ls hS hl
    have e1 : i = 12 := by omega
    revert hS hl
    rw [e1]
    intro hS hl
    refine lv_iload hx hb dL_law_21 (lv_at hl 0 rfl) ?_
    refine lv_bipush (v := nI 12) hx hb dL_law_23 (by decide) ?_
    refine lv_icmp_ge (tgt := 259) hx hb dL_law_25 (by decide) (fun _ => ?_) (fun h => absurd (i_nle (by omega) (by omega) h) (by omega))
    exact K _ _ _ hS (lv_sub hl [0, 1, 2, 3, 4] rfl)
  | succ r ih =>
    intro i e0 H locs ls hS hl
    have hi : i < 12 := by omega
    have hn1 : 2 ≤ nnF fr i := by unfold nnF; omega
    have hn2 : nnF fr i ≤ 7 := by unfold nnF; omega
    obtain ⟨k1, k2, k3⟩ := krF_k fr hfr i (by omega)
    obtain ⟨k1n, k2n, k3n⟩ := krF_k fr hfr (i + 1) (by omega)
    obtain ⟨g1, g2, g3, g4⟩ := krF_q fr hfr i hi
    obtain ⟨f0, f10, f9, fX, f1, f2⟩ := rul_q (nnF fr i) (by omega) hn1
    refine lv_iload hx hb dL_law_21 (lv_at hl 0 rfl) ?_
    refine lv_bipush (v := nI 12) hx hb dL_law_23 (by decide) ?_
    refine lv_icmp_ge (tgt := 259) hx hb dL_law_25 (by decide) (fun h => absurd (i_le (by omega) (by omega) h) (by omega)) (fun _ => ?_)
    refine lv_iconst (v := nI 2) hx hb dL_law_28 (by decide) ?_
    refine lv_iload_n hx hb dL_law_29 rfl (lv_at hl 2 rfl) ?_
    refine lv_iload hx hb dL_law_30 (lv_at hl 0 rfl) ?_
    refine lv_iconst (v := nI 5) hx hb dL_law_32 (by decide) ?_
    refine lv_imul hx hb dL_law_33 ?_
    refine x_cvi (y := nI (i * 5)) (pk_mul _ _) ?_
    refine lv_iadd hx hb dL_law_34 ?_
    refine x_cvi (y := nI (fr + (i * 5))) (nI_add _ _) ?_
    refine lv_bipush (v := nI 6) hx hb dL_law_35 (by decide) ?_
    refine lv_irem hx hb dL_law_37 (by decide) ?_
    refine x_cvi (y := nI ((fr + (i * 5)) % 6)) (pk_rem (by omega) (by omega) (by omega)) ?_
    refine lv_iadd hx hb dL_law_38 ?_
    refine x_cvi (y := nI (2 + ((fr + (i * 5)) % 6))) (nI_add _ _) ?_
    refine x_cvi (y := nI (nnF fr i)) (rfl) ?_
    refine lv_istore (lv' := [(5, .int (nI (nnF fr i))), (4, .int (nI i)), (3, .int (nI (ttR (krF fr i)))), (2, .int (nI fr)), (1, .ref (a 0)), (0, .ref z)]) hx hb dL_law_39 hl (by decide) rfl (fun ls hl => ?_)
    have kJ1 : (∀ (H : Heap) (locs : List Loc), StD s G a ar ac (m, er, sk, lg, im, un, tp, krF fr i, 0) H locs → W p l e room_1 s mt #[Value.ref z] below meth c H locs 46 602 Q (F0 mt 97 ls [.int (nI (dueR (nnF fr i)))])) → W p l e room_1 s mt #[Value.ref z] below meth c H locs 46 602 Q (F0 mt 41 ls []) := by
      intro kj
      refine lv_iload hx hb dL_law_41 (lv_at hl 0 rfl) ?_
      refine lv_iconst (v := nI 2) hx hb dL_law_43 (by decide) ?_
      refine lv_icmp_ne (tgt := 51) hx hb dL_law_44 (by decide) (fun c44 => ?_) (fun c44 => ?_)
      · have c44 : nnF fr i ≠ 2 := i_ne c44
        refine lv_iload hx hb dL_law_51 (lv_at hl 0 rfl) ?_
        refine lv_iconst (v := nI 3) hx hb dL_law_53 (by decide) ?_
        refine lv_icmp_ne (tgt := 61) hx hb dL_law_54 (by decide) (fun c54 => ?_) (fun c54 => ?_)
        · have c54 : nnF fr i ≠ 3 := i_ne c54
          refine lv_iload hx hb dL_law_61 (lv_at hl 0 rfl) ?_
          refine lv_iconst (v := nI 4) hx hb dL_law_63 (by decide) ?_
          refine lv_icmp_ne (tgt := 72) hx hb dL_law_64 (by decide) (fun c64 => ?_) (fun c64 => ?_)
          · have c64 : nnF fr i ≠ 4 := i_ne c64
            refine lv_iload hx hb dL_law_72 (lv_at hl 0 rfl) ?_
            refine lv_iconst (v := nI 5) hx hb dL_law_74 (by decide) ?_
            refine lv_icmp_ne (tgt := 83) hx hb dL_law_75 (by decide) (fun c75 => ?_) (fun c75 => ?_)
            · have c75 : nnF fr i ≠ 5 := i_ne c75
              refine lv_iload hx hb dL_law_83 (lv_at hl 0 rfl) ?_
              refine lv_bipush (v := nI 6) hx hb dL_law_85 (by decide) ?_
              refine lv_icmp_ne (tgt := 95) hx hb dL_law_87 (by decide) (fun c87 => ?_) (fun c87 => ?_)
              · have c87 : nnF fr i ≠ 6 := i_ne c87
                refine lv_bipush (v := nI 25) hx hb dL_law_95 (by decide) ?_
                refine x_cvi (y := nI (dueR (nnF fr i))) (congrArg nI (by unfold dueR; (repeat' split) <;> omega)) ?_
                exact kj H locs hS
              · have c87 : nnF fr i = 6 := i_eq (by omega) (by omega) c87
                refine lv_bipush (v := nI 17) hx hb dL_law_90 (by decide) ?_
                refine lv_goto (tgt := 97) hx hb dL_law_92 (by decide) ?_
                refine x_cvi (y := nI (dueR (nnF fr i))) (congrArg nI (by unfold dueR; (repeat' split) <;> omega)) ?_
                exact kj H locs hS
            · have c75 : nnF fr i = 5 := i_eq (by omega) (by omega) c75
              refine lv_bipush (v := nI 11) hx hb dL_law_78 (by decide) ?_
              refine lv_goto (tgt := 97) hx hb dL_law_80 (by decide) ?_
              refine x_cvi (y := nI (dueR (nnF fr i))) (congrArg nI (by unfold dueR; (repeat' split) <;> omega)) ?_
              exact kj H locs hS
          · have c64 : nnF fr i = 4 := i_eq (by omega) (by omega) c64
            refine lv_bipush (v := nI 6) hx hb dL_law_67 (by decide) ?_
            refine lv_goto (tgt := 97) hx hb dL_law_69 (by decide) ?_
            refine x_cvi (y := nI (dueR (nnF fr i))) (congrArg nI (by unfold dueR; (repeat' split) <;> omega)) ?_
            exact kj H locs hS
        · have c54 : nnF fr i = 3 := i_eq (by omega) (by omega) c54
          refine lv_iconst (v := nI 3) hx hb dL_law_57 (by decide) ?_
          refine lv_goto (tgt := 97) hx hb dL_law_58 (by decide) ?_
          refine x_cvi (y := nI (dueR (nnF fr i))) (congrArg nI (by unfold dueR; (repeat' split) <;> omega)) ?_
          exact kj H locs hS
      · have c44 : nnF fr i = 2 := i_eq (by omega) (by omega) c44
        refine lv_iconst (v := nI 1) hx hb dL_law_47 (by decide) ?_
        refine lv_goto (tgt := 97) hx hb dL_law_48 (by decide) ?_
        refine x_cvi (y := nI (dueR (nnF fr i))) (congrArg nI (by unfold dueR; (repeat' split) <;> omega)) ?_
        exact kj H locs hS
    refine kJ1 (fun H locs hS => ?_)
    refine lv_istore (lv' := [(6, .int (nI (dueR (nnF fr i)))), (5, .int (nI (nnF fr i))), (4, .int (nI i)), (3, .int (nI (ttR (krF fr i)))), (2, .int (nI fr)), (1, .ref (a 0)), (0, .ref z)]) hx hb dL_law_97 hl (by decide) rfl (fun ls hl => ?_)
    refine lv_aload_n hx hb dL_law_99 rfl (lv_at hl 5 rfl) ?_
    refine lv_iconst (v := nI 4) hx hb dL_law_100 (by decide) ?_
    refine r_told  (nI 4)  X hS hl.1 (Nat.le_of_ble_eq_true rfl) dL_law_101 (fun H locs hS => ?_)
    refine x_cvi (y := nI (krF fr i)) (td_4) ?_
    refine lv_iload hx hb dL_law_104 (lv_at hl 1 rfl) ?_
    refine lv_ishr hx hb dL_law_106 ?_
    refine lv_iconst (v := nI 1) hx hb dL_law_107 (by decide) ?_
    refine lv_iand hx hb dL_law_108 ?_
    refine x_cvi (y := nI (krF fr i / 2 ^ nnF fr i % 2)) (kn_shr (by omega) (by omega)) ?_
    have kJ2 : (∀ (H : Heap) (locs : List Loc), StD s G a ar ac (m, er, sk, lg, im, un, tp, krF fr i, 0) H locs → W p l e room_1 s mt #[Value.ref z] below meth c H locs 46 602 Q (F0 mt 117 ls [.int (nI (1 - krF fr i / 2 ^ nnF fr i % 2))])) → W p l e room_1 s mt #[Value.ref z] below meth c H locs 46 602 Q (F0 mt 109 ls [.int (nI (krF fr i / 2 ^ nnF fr i % 2))]) := by
      intro kj
      refine lv_if_ne (tgt := 116) hx hb dL_law_109 (by decide) (fun c109 => ?_) (fun c109 => ?_)
      · have c109 : krF fr i / 2 ^ nnF fr i % 2 ≠ 0 := i_ne c109
        refine lv_iconst (v := nI 0) hx hb dL_law_116 (by decide) ?_
        refine x_cvi (y := nI (1 - krF fr i / 2 ^ nnF fr i % 2)) (congrArg nI (by omega)) ?_
        exact kj H locs hS
      · have c109 : krF fr i / 2 ^ nnF fr i % 2 = 0 := i_eq (by omega) (by omega) c109
        refine lv_iconst (v := nI 1) hx hb dL_law_112 (by decide) ?_
        refine lv_goto (tgt := 117) hx hb dL_law_113 (by decide) ?_
        refine x_cvi (y := nI (1 - krF fr i / 2 ^ nnF fr i % 2)) (congrArg nI (by omega)) ?_
        exact kj H locs hS
    refine kJ2 (fun H locs hS => ?_)
    refine lv_istore (lv' := [(7, .int (nI (1 - krF fr i / 2 ^ nnF fr i % 2))), (6, .int (nI (dueR (nnF fr i)))), (5, .int (nI (nnF fr i))), (4, .int (nI i)), (3, .int (nI (ttR (krF fr i)))), (2, .int (nI fr)), (1, .ref (a 0)), (0, .ref z)]) hx hb dL_law_117 hl (by decide) rfl (fun ls hl => ?_)
    refine lv_aload_n hx hb dL_law_119 rfl (lv_at hl 6 rfl) ?_
    refine lv_iload hx hb dL_law_120 (lv_at hl 2 rfl) ?_
    refine lv_iconst (v := nI 0) hx hb dL_law_122 (by decide) ?_
    refine r_ruler  (nnF fr i) (nI 0) (hn1) (hn2) (by decide) X hS hl.1 (Nat.le_of_ble_eq_true rfl) dL_law_123 (fun H locs hS => ?_)
    have hS : StD s G a ar ac (m, er, sk, lg, im, un, tp, krF fr (i + 1), 0) H locs := by
      exact hS
    refine x_cvi (y := nI (dueR (nnF fr i))) (by rw [ans_r hn1 hn2]; exact f0) ?_
    refine lv_iload hx hb dL_law_126 (lv_at hl 1 rfl) ?_
    refine lv_icmp_ne (tgt := 197) hx hb dL_law_128 (by decide) (fun h => absurd rfl h) (fun _ => ?_)
    refine lv_aload_n hx hb dL_law_131 rfl (lv_at hl 6 rfl) ?_
    refine lv_iload hx hb dL_law_132 (lv_at hl 2 rfl) ?_
    refine lv_bipush (v := nI 10) hx hb dL_law_134 (by decide) ?_
    refine r_ruler  (nnF fr i) (nI 10) (hn1) (hn2) (by decide) X hS hl.1 (Nat.le_of_ble_eq_true rfl) dL_law_136 (fun H locs hS => ?_)
    have hS : StD s G a ar ac (m, er, sk, lg, im, un, tp, krF fr (i + 1), 0) H locs := by
      rw [g3] at hS
      exact hS
    refine x_cvi (y := nI 0) (by rw [ans_r hn1 hn2]; exact f10) ?_
    refine lv_if_ne (tgt := 197) hx hb dL_law_139 (by decide) (fun h => absurd rfl h) (fun _ => ?_)
    refine lv_aload_n hx hb dL_law_142 rfl (lv_at hl 6 rfl) ?_
    refine lv_iload hx hb dL_law_143 (lv_at hl 2 rfl) ?_
    refine lv_bipush (v := nI 9) hx hb dL_law_145 (by decide) ?_
    refine lv_iload hx hb dL_law_147 (lv_at hl 2 rfl) ?_
    refine lv_iadd hx hb dL_law_149 ?_
    refine x_cvi (y := nI (9 + (nnF fr i))) (nI_add _ _) ?_
    refine r_ruler  (nnF fr i) (nI (9 + (nnF fr i))) (hn1) (hn2) (inA_hi _ (by omega) (by omega)) X hS hl.1 (Nat.le_of_ble_eq_true rfl) dL_law_150 (fun H locs hS => ?_)
    have hS : StD s G a ar ac (m, er, sk, lg, im, un, tp, krF fr (i + 1), 0) H locs := by
      rw [g3] at hS
      exact hS
    refine x_cvi (y := nI (dueR (nnF fr i))) (by rw [ans_r hn1 hn2]; exact f9) ?_
    refine lv_iload hx hb dL_law_153 (lv_at hl 1 rfl) ?_
    refine lv_icmp_ne (tgt := 197) hx hb dL_law_155 (by decide) (fun h => absurd rfl h) (fun _ => ?_)
    refine lv_aload_n hx hb dL_law_158 rfl (lv_at hl 6 rfl) ?_
    refine lv_iload hx hb dL_law_159 (lv_at hl 2 rfl) ?_
    refine lv_bipush (v := nI 10) hx hb dL_law_161 (by decide) ?_
    refine lv_iload hx hb dL_law_163 (lv_at hl 2 rfl) ?_
    refine lv_iadd hx hb dL_law_165 ?_
    refine x_cvi (y := nI (10 + (nnF fr i))) (nI_add _ _) ?_
    refine r_ruler  (nnF fr i) (nI (10 + (nnF fr i))) (hn1) (hn2) (inA_hi _ (by omega) (by omega)) X hS hl.1 (Nat.le_of_ble_eq_true rfl) dL_law_166 (fun H locs hS => ?_)
    have hS : StD s G a ar ac (m, er, sk, lg, im, un, tp, krF fr (i + 1), 0) H locs := by
      rw [g3] at hS
      exact hS
    refine x_cvi (y := (-6)) (by rw [ans_r hn1 hn2]; exact fX) ?_
    refine lv_bipush (v := (-6)) hx hb dL_law_169 (by decide) ?_
    refine lv_icmp_ne (tgt := 197) hx hb dL_law_171 (by decide) (fun h => absurd rfl h) (fun _ => ?_)
    refine lv_aload_n hx hb dL_law_174 rfl (lv_at hl 6 rfl) ?_
    refine lv_iload hx hb dL_law_175 (lv_at hl 2 rfl) ?_
    refine lv_iconst (v := nI 1) hx hb dL_law_177 (by decide) ?_
    refine r_ruler  (nnF fr i) (nI 1) (hn1) (hn2) (by decide) X hS hl.1 (Nat.le_of_ble_eq_true rfl) dL_law_178 (fun H locs hS => ?_)
    have hS : StD s G a ar ac (m, er, sk, lg, im, un, tp, krF fr (i + 1), 0) H locs := by
      rw [g3] at hS
      exact hS
    refine x_cvi (y := fq0 (nnF fr i) (nI 1)) (by rw [ans_r hn1 hn2]; skip) ?_
    refine lv_iconst (v := nI 2) hx hb dL_law_181 (by decide) ?_
    refine lv_irem hx hb dL_law_182 (by decide) ?_
    refine x_cvi (y := nI (if nnF fr i = 2 then 1 else 0)) (f1) ?_
    have kJ3 : (∀ (H : Heap) (locs : List Loc), StD s G a ar ac (m, er, sk, lg, im, un, tp, krF fr (i + 1), 0) H locs → W p l e room_1 s mt #[Value.ref z] below meth c H locs 46 602 Q (F0 mt 194 ls [.int (nI (if nnF fr i = 2 then 1 else 0)), .int (nI (if nnF fr i = 2 then 1 else 0))])) → W p l e room_1 s mt #[Value.ref z] below meth c H locs 46 602 Q (F0 mt 183 ls [.int (nI (if nnF fr i = 2 then 1 else 0))]) := by
      intro kj
      refine lv_iload hx hb dL_law_183 (lv_at hl 2 rfl) ?_
      refine lv_iconst (v := nI 2) hx hb dL_law_185 (by decide) ?_
      refine lv_icmp_ne (tgt := 193) hx hb dL_law_186 (by decide) (fun c186 => ?_) (fun c186 => ?_)
      · have c186 : nnF fr i ≠ 2 := i_ne c186
        refine lv_iconst (v := nI 0) hx hb dL_law_193 (by decide) ?_
        refine x_cvi (y := nI (if nnF fr i = 2 then 1 else 0)) (congrArg nI (by split <;> omega)) ?_
        exact kj H locs hS
      · have c186 : nnF fr i = 2 := i_eq (by omega) (by omega) c186
        refine lv_iconst (v := nI 1) hx hb dL_law_189 (by decide) ?_
        refine lv_goto (tgt := 194) hx hb dL_law_190 (by decide) ?_
        refine x_cvi (y := nI (if nnF fr i = 2 then 1 else 0)) (congrArg nI (by split <;> omega)) ?_
        exact kj H locs hS
    refine kJ3 (fun H locs hS => ?_)
    refine lv_icmp_eq (tgt := 199) hx hb dL_law_194 (by decide) (fun _ => ?_) (fun h => absurd rfl h)
    refine lv_iload_n hx hb dL_law_199 rfl (lv_at hl 4 rfl) ?_
    have kJ4 : (∀ (H : Heap) (locs : List Loc), StD s G a ar ac (m, er, sk, lg, im, un, tp, krF fr (i + 1), 0) H locs → W p l e room_1 s mt #[Value.ref z] below meth c H locs 46 602 Q (F0 mt 216 ls [.int (nI ((1 - krF fr i / 2 ^ nnF fr i % 2) * (tb0 (nnF fr i)).2.2.1)), .int (nI (ttR (krF fr i)))])) → W p l e room_1 s mt #[Value.ref z] below meth c H locs 46 602 Q (F0 mt 200 ls [.int (nI (ttR (krF fr i)))]) := by
      intro kj
      refine lv_iload hx hb dL_law_200 (lv_at hl 0 rfl) ?_
      refine lv_if_eq (tgt := 215) hx hb dL_law_202 (by decide) (fun c202 => ?_) (fun c202 => ?_)
      · have c202 : 1 - krF fr i / 2 ^ nnF fr i % 2 = 0 := i_eq (by omega) (by omega) c202
        refine lv_iconst (v := nI 0) hx hb dL_law_215 (by decide) ?_
        refine x_cvi (y := nI ((1 - krF fr i / 2 ^ nnF fr i % 2) * (tb0 (nnF fr i)).2.2.1)) (congrArg nI (by rw [show 1 - krF fr i / 2 ^ nnF fr i % 2 = 0 by omega, Nat.zero_mul])) ?_
        exact kj H locs hS
      · have c202 : 1 - krF fr i / 2 ^ nnF fr i % 2 ≠ 0 := i_ne c202
        refine lv_aload_n hx hb dL_law_205 rfl (lv_at hl 6 rfl) ?_
        refine lv_iload hx hb dL_law_206 (lv_at hl 2 rfl) ?_
        refine lv_iconst (v := nI 2) hx hb dL_law_208 (by decide) ?_
        refine r_ruler  (nnF fr i) (nI 2) (hn1) (hn2) (by decide) X hS hl.1 (Nat.le_of_ble_eq_true rfl) dL_law_209 (fun H locs hS => ?_)
        have hS : StD s G a ar ac (m, er, sk, lg, im, un, tp, krF fr (i + 1), 0) H locs := by
          rw [g3] at hS
          exact hS
        refine x_cvi (y := nI (tb0 (nnF fr i)).2.2.1) (by rw [ans_r hn1 hn2]; exact f2) ?_
        refine lv_goto (tgt := 216) hx hb dL_law_212 (by decide) ?_
        refine x_cvi (y := nI ((1 - krF fr i / 2 ^ nnF fr i % 2) * (tb0 (nnF fr i)).2.2.1)) (congrArg nI (by rw [show 1 - krF fr i / 2 ^ nnF fr i % 2 = 1 by omega, Nat.one_mul])) ?_
        exact kj H locs hS
    refine kJ4 (fun H locs hS => ?_)
    refine lv_iadd hx hb dL_law_216 ?_
    refine x_cvi (y := nI (ttR (krF fr i) + ((1 - krF fr i / 2 ^ nnF fr i % 2) * (tb0 (nnF fr i)).2.2.1))) (nI_add _ _) ?_
    refine x_cvi (y := nI (ttR (krF fr (i + 1)))) (by rw [g1]) ?_
    refine lv_istore_n (lv' := [(3, .int (nI (ttR (krF fr (i + 1))))), (7, .int (nI (1 - krF fr i / 2 ^ nnF fr i % 2))), (6, .int (nI (dueR (nnF fr i)))), (5, .int (nI (nnF fr i))), (4, .int (nI i)), (2, .int (nI fr)), (1, .ref (a 0)), (0, .ref z)]) hx hb dL_law_217 rfl hl (by decide) rfl (fun ls hl => ?_)
    refine lv_aload_n hx hb dL_law_218 rfl (lv_at hl 6 rfl) ?_
    refine lv_iconst (v := nI 2) hx hb dL_law_219 (by decide) ?_
    refine r_told  (nI 2)  X hS hl.1 (Nat.le_of_ble_eq_true rfl) dL_law_220 (fun H locs hS => ?_)
    refine x_cvi (y := nI (ttR (krF fr (i + 1)))) (by rw [td_2, tt_r k2n k3n, tt_c (Nat.zero_testBit 0), kcF_e.2.2.2.2.2.1, nI_add]; rfl) ?_
    refine lv_iload_n hx hb dL_law_223 rfl (lv_at hl 0 rfl) ?_
    refine lv_icmp_ne (tgt := 251) hx hb dL_law_224 (by decide) (fun h => absurd rfl h) (fun _ => ?_)
    refine lv_aload_n hx hb dL_law_227 rfl (lv_at hl 6 rfl) ?_
    refine lv_iconst (v := nI 1) hx hb dL_law_228 (by decide) ?_
    refine r_told  (nI 1)  X hS hl.1 (Nat.le_of_ble_eq_true rfl) dL_law_229 (fun H locs hS => ?_)
    refine x_cvi (y := nI (if i < 6 then i + 1 else 6)) (by rw [td_1, g2, kcF_e.2.2.2.2.1, nI_add]; rfl) ?_
    have kJ5 : (∀ (H : Heap) (locs : List Loc), StD s G a ar ac (m, er, sk, lg, im, un, tp, krF fr (i + 1), 0) H locs → W p l e room_1 s mt #[Value.ref z] below meth c H locs 46 602 Q (F0 mt 248 ls [.int (nI (if i < 6 then i + 1 else 6)), .int (nI (if i < 6 then i + 1 else 6))])) → W p l e room_1 s mt #[Value.ref z] below meth c H locs 46 602 Q (F0 mt 232 ls [.int (nI (if i < 6 then i + 1 else 6))]) := by
      intro kj
      refine lv_iload hx hb dL_law_232 (lv_at hl 4 rfl) ?_
      refine lv_bipush (v := nI 6) hx hb dL_law_234 (by decide) ?_
      refine lv_icmp_ge (tgt := 246) hx hb dL_law_236 (by decide) (fun c236 => ?_) (fun c236 => ?_)
      · have c236 : 6 ≤ i := i_le (by omega) (by omega) c236
        refine lv_bipush (v := nI 6) hx hb dL_law_246 (by decide) ?_
        refine x_cvi (y := nI (if i < 6 then i + 1 else 6)) (congrArg nI (by split <;> omega)) ?_
        exact kj H locs hS
      · have c236 : i < 6 := i_nle (by omega) (by omega) c236
        refine lv_iload hx hb dL_law_239 (lv_at hl 4 rfl) ?_
        refine lv_iconst (v := nI 1) hx hb dL_law_241 (by decide) ?_
        refine lv_iadd hx hb dL_law_242 ?_
        refine x_cvi (y := nI (i + 1)) (nI_add _ _) ?_
        refine lv_goto (tgt := 248) hx hb dL_law_243 (by decide) ?_
        refine x_cvi (y := nI (if i < 6 then i + 1 else 6)) (congrArg nI (by split <;> omega)) ?_
        exact kj H locs hS
    refine kJ5 (fun H locs hS => ?_)
    refine lv_icmp_eq (tgt := 253) hx hb dL_law_248 (by decide) (fun _ => ?_) (fun h => absurd rfl h)
    refine lv_iinc (v := nI (i + 1)) (lv' := [(4, .int (nI (i + 1))), (3, .int (nI (ttR (krF fr (i + 1))))), (7, .int (nI (1 - krF fr i / 2 ^ nnF fr i % 2))), (6, .int (nI (dueR (nnF fr i)))), (5, .int (nI (nnF fr i))), (2, .int (nI fr)), (1, .ref (a 0)), (0, .ref z)]) hx hb dL_law_253 hl (k := 4) rfl (by exact nI_1 _) (by decide) rfl (fun ls hl => ?_)
    refine lv_goto (tgt := 21) hx hb dL_law_256 (by decide) ?_
    exact ih (i + 1) (by omega) _ _ _ hS (lv_sub hl [0, 1, 5, 6, 7] rfl)
