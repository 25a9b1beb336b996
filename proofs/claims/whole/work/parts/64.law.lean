/-! The law, call by call; its loop; its start. -/
theorem inv_c {G : GG} {a ar ac b : Nat → Nat} {wc wm : va_W} (h : Inv G a ar ac b wc wm) : ∃ fs : List Value, wc[0]? = some (a 0, .inr (4, fs)) := by
  obtain ⟨m, er, em, sk, sm, lg, st, be, nx, f1, f2, f3, ik, m1, er1, sk1, m2, er2, sk2, kp, iqf, un, tp, kr, kc, mf, nf, rkv, ckv, ka, wr, rfl, rfl, -⟩ := h
  exact ⟨_, rfl⟩
theorem inv_m {G : GG} {a ar ac b : Nat → Nat} {wc wm : va_W} (h : Inv G a ar ac b wc wm) : ∃ fs : List Value, wm[0]? = some (b 0, .inr (5, fs)) := by
  obtain ⟨m, er, em, sk, sm, lg, st, be, nx, f1, f2, f3, ik, m1, er1, sk1, m2, er2, sk2, kp, iqf, un, tp, kr, kc, mf, nf, rkv, ckv, ka, wr, rfl, rfl, -⟩ := h
  exact ⟨_, rfl⟩
set_option maxHeartbeats 4000000 in
set_option maxRecDepth 100000 in
theorem law_c0 {p : Program} {l : Launch} {e : Env} {s : State} {m : MethodId} {below : List Frame} {meth : Method} {c : Code} {G : GG} {nm : String} {z L i : Nat} {xs : Nat → Int32} {Q : State → Prop} {a ar ac b : Nat → Nat} {ls : Array Slot} {H : Heap} {locs : List Loc} {wc wm : va_W} (X : CX p s m meth c #[Value.ref z] G wsL_law RL cL_law 4 nm (fun q => s.heap.size ≤ q)) (hX : va_X z L xs s s.heap) (hbl : z < s.heap.size) (hL : L ≤ 2048) (K : ∀ (H : Heap) (locs : List Loc) (wc wm : va_W), Inv G a ar ac b wc wm → WS G (fun q => s.heap.size ≤ q) s.heap H locs (wm ++ wc) → W p l e room_1 s m #[Value.ref z] below meth c H locs 65 1687 Q (F0 m 631 ls [])) (hl : lv_has ls 4 [(3, .int (nI i)), (2, .ref (b 0)), (1, .ref (a 0)), (0, .ref z)]) (hi : i + 4 ≤ L) (hI : Inv G a ar ac b wc wm) (hw : WS G (fun q => s.heap.size ≤ q) s.heap H locs (wm ++ wc)) : W p l e room_1 s m #[Value.ref z] below meth c H locs 65 1687 Q (F0 m 124 ls []) := by
  obtain ⟨hx, hb, -⟩ := id X
  have hbA : ¬ (fun q : Nat => s.heap.size ≤ q) z := Nat.not_le.mpr hbl
  refine lv_aload_n hx hb dL_law_124 rfl (lv_at hl 2 rfl) ?_
  refine lv_aload_n hx hb dL_law_125 rfl (lv_at hl 3 rfl) ?_
  refine lv_iload_n hx hb dL_law_126 rfl (lv_at hl 0 rfl) ?_
  refine lv_iconst (v := 1) hx hb dL_law_127 (by decide) ?_
  refine lv_iadd hx hb dL_law_128 ?_
  refine x_cvi (y := nI (i + 1)) (by exact nI_add i 1) ?_
  refine va_sld hx hb hX hbl hbA hw.2.2 (vp_in_nI (by omega) (by omega)) dL_law_129 ?_
  refine x_cvi (y := xs (i + 1)) (by rw [nI_clamp (by omega)]) ?_
  obtain ⟨PC, PM, hC, hM, hv, hk⟩ := o_put (l := l) (xs (i + 1)) hI
  obtain ⟨fs, he⟩ := inv_c hI
  refine xcVS (n := 1) (As := [.int (xs (i + 1))]) (rest := []) (X0 := wm) (wc := wc) X hw hC (C := RX7) gL_law_X7_put (q0 := wm.length) (ci := 4) (fs := fs) (by rw [List.getElem?_append_right (Nat.le_refl _), Nat.sub_self]; exact he) rfl rfl ⟨rfl, rfl⟩ (by decide +kernel) ⟨Nat.le_of_ble_eq_true rfl, Nat.le_of_ble_eq_true rfl⟩ rfl hl.1 rfl (Nat.le_of_ble_eq_true rfl) dL_law_130 ⟨Nat.le_of_ble_eq_true rfl, Nat.le_of_ble_eq_true rfl⟩ (fun r1 w1 H locs hp1 hw => ?_)
  obtain ⟨v, rfl⟩ := hv r1 w1 hp1
  refine W.eq (g2 := F0 m 133 ls [.int v]) rfl ?_
  have hw := ws_perm List.perm_append_comm hw
  obtain ⟨fs2, he2⟩ := inv_m hI
  refine lv_aload_n hx hb dL_law_133 rfl (lv_at hl 1 rfl) ?_
  refine lv_aload_n hx hb dL_law_134 rfl (lv_at hl 3 rfl) ?_
  refine lv_iload_n hx hb dL_law_135 rfl (lv_at hl 0 rfl) ?_
  refine lv_iconst (v := 1) hx hb dL_law_136 (by decide) ?_
  refine lv_iadd hx hb dL_law_137 ?_
  refine x_cvi (y := nI (i + 1)) (by exact nI_add i 1) ?_
  refine va_sld hx hb hX hbl hbA hw.2.2 (vp_in_nI (by omega) (by omega)) dL_law_138 ?_
  refine x_cvi (y := xs (i + 1)) (by rw [nI_clamp (by omega)]) ?_
  refine xcVS (n := 1) (As := [.int (xs (i + 1))]) (rest := [.int v]) (X0 := w1) (wc := wm) X hw hM (C := RX8) gL_law_X8_put (q0 := w1.length) (ci := 5) (fs := fs2) (by rw [List.getElem?_append_right (Nat.le_refl _), Nat.sub_self]; exact he2) rfl rfl ⟨rfl, rfl⟩ (by decide +kernel) ⟨Nat.le_of_ble_eq_true rfl, Nat.le_of_ble_eq_true rfl⟩ rfl hl.1 rfl (Nat.le_of_ble_eq_true rfl) dL_law_139 ⟨Nat.le_of_ble_eq_true rfl, Nat.le_of_ble_eq_true rfl⟩ (fun r2 w2 H locs hp2 hw => ?_)
  obtain ⟨v2, e1, e2, wc2, wm2, q1, q2, hI2⟩ := hk _ _ _ _ hp1 hp2
  cases e1
  subst e2
  refine W.eq (g2 := F0 m 142 ls [.int v, .int v]) rfl ?_
  refine lv_icmp_eq (tgt := 631) hx hb dL_law_142 (by decide) (fun h => ?_) (fun h => absurd rfl h)
  exact K _ _ _ _ hI2 (ws_perm (List.perm_append_comm.trans (q2.append q1)) hw)
set_option maxHeartbeats 4000000 in
set_option maxRecDepth 100000 in
theorem law_c1 {p : Program} {l : Launch} {e : Env} {s : State} {m : MethodId} {below : List Frame} {meth : Method} {c : Code} {G : GG} {nm : String} {z L i : Nat} {xs : Nat → Int32} {Q : State → Prop} {a ar ac b : Nat → Nat} {ls : Array Slot} {H : Heap} {locs : List Loc} {wc wm : va_W} (X : CX p s m meth c #[Value.ref z] G wsL_law RL cL_law 4 nm (fun q => s.heap.size ≤ q)) (hX : va_X z L xs s s.heap) (hbl : z < s.heap.size) (hL : L ≤ 2048) (K : ∀ (H : Heap) (locs : List Loc) (wc wm : va_W), Inv G a ar ac b wc wm → WS G (fun q => s.heap.size ≤ q) s.heap H locs (wm ++ wc) → W p l e room_1 s m #[Value.ref z] below meth c H locs 65 1687 Q (F0 m 631 ls [])) (hl : lv_has ls 4 [(3, .int (nI i)), (2, .ref (b 0)), (1, .ref (a 0)), (0, .ref z)]) (hi : i + 4 ≤ L) (hI : Inv G a ar ac b wc wm) (hw : WS G (fun q => s.heap.size ≤ q) s.heap H locs (wm ++ wc)) : W p l e room_1 s m #[Value.ref z] below meth c H locs 65 1687 Q (F0 m 147 ls []) := by
  obtain ⟨hx, hb, -⟩ := id X
  have hbA : ¬ (fun q : Nat => s.heap.size ≤ q) z := Nat.not_le.mpr hbl
  refine lv_aload_n hx hb dL_law_147 rfl (lv_at hl 2 rfl) ?_
  refine lv_aload_n hx hb dL_law_148 rfl (lv_at hl 3 rfl) ?_
  refine lv_iload_n hx hb dL_law_149 rfl (lv_at hl 0 rfl) ?_
  refine lv_iconst (v := 1) hx hb dL_law_150 (by decide) ?_
  refine lv_iadd hx hb dL_law_151 ?_
  refine x_cvi (y := nI (i + 1)) (by exact nI_add i 1) ?_
  refine va_sld hx hb hX hbl hbA hw.2.2 (vp_in_nI (by omega) (by omega)) dL_law_152 ?_
  refine x_cvi (y := xs (i + 1)) (by rw [nI_clamp (by omega)]) ?_
  obtain ⟨PC, PM, hC, hM, hv, hk⟩ := o_lift (l := l) (xs (i + 1)) hI
  obtain ⟨fs, he⟩ := inv_c hI
  refine xcVS (n := 1) (As := [.int (xs (i + 1))]) (rest := []) (X0 := wm) (wc := wc) X hw hC (C := RX7) gL_law_X7_lift (q0 := wm.length) (ci := 4) (fs := fs) (by rw [List.getElem?_append_right (Nat.le_refl _), Nat.sub_self]; exact he) rfl rfl ⟨rfl, rfl⟩ (by decide +kernel) ⟨Nat.le_of_ble_eq_true rfl, Nat.le_of_ble_eq_true rfl⟩ rfl hl.1 rfl (Nat.le_of_ble_eq_true rfl) dL_law_153 ⟨Nat.le_of_ble_eq_true rfl, Nat.le_of_ble_eq_true rfl⟩ (fun r1 w1 H locs hp1 hw => ?_)
  obtain ⟨v, rfl⟩ := hv r1 w1 hp1
  refine W.eq (g2 := F0 m 156 ls [.int v]) rfl ?_
  have hw := ws_perm List.perm_append_comm hw
  obtain ⟨fs2, he2⟩ := inv_m hI
  refine lv_aload_n hx hb dL_law_156 rfl (lv_at hl 1 rfl) ?_
  refine lv_aload_n hx hb dL_law_157 rfl (lv_at hl 3 rfl) ?_
  refine lv_iload_n hx hb dL_law_158 rfl (lv_at hl 0 rfl) ?_
  refine lv_iconst (v := 1) hx hb dL_law_159 (by decide) ?_
  refine lv_iadd hx hb dL_law_160 ?_
  refine x_cvi (y := nI (i + 1)) (by exact nI_add i 1) ?_
  refine va_sld hx hb hX hbl hbA hw.2.2 (vp_in_nI (by omega) (by omega)) dL_law_161 ?_
  refine x_cvi (y := xs (i + 1)) (by rw [nI_clamp (by omega)]) ?_
  refine xcVS (n := 1) (As := [.int (xs (i + 1))]) (rest := [.int v]) (X0 := w1) (wc := wm) X hw hM (C := RX8) gL_law_X8_lift (q0 := w1.length) (ci := 5) (fs := fs2) (by rw [List.getElem?_append_right (Nat.le_refl _), Nat.sub_self]; exact he2) rfl rfl ⟨rfl, rfl⟩ (by decide +kernel) ⟨Nat.le_of_ble_eq_true rfl, Nat.le_of_ble_eq_true rfl⟩ rfl hl.1 rfl (Nat.le_of_ble_eq_true rfl) dL_law_162 ⟨Nat.le_of_ble_eq_true rfl, Nat.le_of_ble_eq_true rfl⟩ (fun r2 w2 H locs hp2 hw => ?_)
  obtain ⟨v2, e1, e2, wc2, wm2, q1, q2, hI2⟩ := hk _ _ _ _ hp1 hp2
  cases e1
  subst e2
  refine W.eq (g2 := F0 m 165 ls [.int v, .int v]) rfl ?_
  refine lv_icmp_eq (tgt := 631) hx hb dL_law_165 (by decide) (fun h => ?_) (fun h => absurd rfl h)
  exact K _ _ _ _ hI2 (ws_perm (List.perm_append_comm.trans (q2.append q1)) hw)
set_option maxHeartbeats 4000000 in
set_option maxRecDepth 100000 in
theorem law_c2 {p : Program} {l : Launch} {e : Env} {s : State} {m : MethodId} {below : List Frame} {meth : Method} {c : Code} {G : GG} {nm : String} {z L i : Nat} {xs : Nat → Int32} {Q : State → Prop} {a ar ac b : Nat → Nat} {ls : Array Slot} {H : Heap} {locs : List Loc} {wc wm : va_W} (X : CX p s m meth c #[Value.ref z] G wsL_law RL cL_law 4 nm (fun q => s.heap.size ≤ q)) (hX : va_X z L xs s s.heap) (hbl : z < s.heap.size) (hL : L ≤ 2048) (K : ∀ (H : Heap) (locs : List Loc) (wc wm : va_W), Inv G a ar ac b wc wm → WS G (fun q => s.heap.size ≤ q) s.heap H locs (wm ++ wc) → W p l e room_1 s m #[Value.ref z] below meth c H locs 65 1687 Q (F0 m 631 ls [])) (hl : lv_has ls 4 [(3, .int (nI i)), (2, .ref (b 0)), (1, .ref (a 0)), (0, .ref z)]) (hi : i + 4 ≤ L) (hI : Inv G a ar ac b wc wm) (hw : WS G (fun q => s.heap.size ≤ q) s.heap H locs (wm ++ wc)) : W p l e room_1 s m #[Value.ref z] below meth c H locs 65 1687 Q (F0 m 170 ls []) := by
  obtain ⟨hx, hb, -⟩ := id X
  have hbA : ¬ (fun q : Nat => s.heap.size ≤ q) z := Nat.not_le.mpr hbl
  refine lv_aload_n hx hb dL_law_170 rfl (lv_at hl 2 rfl) ?_
  obtain ⟨PC, PM, hC, hM, hv, hk⟩ := o_undo (l := l)  hI
  obtain ⟨fs, he⟩ := inv_c hI
  refine xcVS (n := 0) (As := []) (rest := []) (X0 := wm) (wc := wc) X hw hC (C := RX7) gL_law_X7_undo (q0 := wm.length) (ci := 4) (fs := fs) (by rw [List.getElem?_append_right (Nat.le_refl _), Nat.sub_self]; exact he) rfl rfl ⟨rfl, rfl⟩ (by decide +kernel) ⟨Nat.le_of_ble_eq_true rfl, Nat.le_of_ble_eq_true rfl⟩ rfl hl.1 rfl (Nat.le_of_ble_eq_true rfl) dL_law_171 ⟨Nat.le_of_ble_eq_true rfl, Nat.le_of_ble_eq_true rfl⟩ (fun r1 w1 H locs hp1 hw => ?_)
  obtain ⟨v, rfl⟩ := hv r1 w1 hp1
  refine W.eq (g2 := F0 m 174 ls [.int v]) rfl ?_
  have hw := ws_perm List.perm_append_comm hw
  obtain ⟨fs2, he2⟩ := inv_m hI
  refine lv_aload_n hx hb dL_law_174 rfl (lv_at hl 1 rfl) ?_
  refine xcVS (n := 0) (As := []) (rest := [.int v]) (X0 := w1) (wc := wm) X hw hM (C := RX8) gL_law_X8_undo (q0 := w1.length) (ci := 5) (fs := fs2) (by rw [List.getElem?_append_right (Nat.le_refl _), Nat.sub_self]; exact he2) rfl rfl ⟨rfl, rfl⟩ (by decide +kernel) ⟨Nat.le_of_ble_eq_true rfl, Nat.le_of_ble_eq_true rfl⟩ rfl hl.1 rfl (Nat.le_of_ble_eq_true rfl) dL_law_175 ⟨Nat.le_of_ble_eq_true rfl, Nat.le_of_ble_eq_true rfl⟩ (fun r2 w2 H locs hp2 hw => ?_)
  obtain ⟨v2, e1, e2, wc2, wm2, q1, q2, hI2⟩ := hk _ _ _ _ hp1 hp2
  cases e1
  subst e2
  refine W.eq (g2 := F0 m 178 ls [.int v, .int v]) rfl ?_
  refine lv_icmp_eq (tgt := 631) hx hb dL_law_178 (by decide) (fun h => ?_) (fun h => absurd rfl h)
  exact K _ _ _ _ hI2 (ws_perm (List.perm_append_comm.trans (q2.append q1)) hw)
set_option maxHeartbeats 4000000 in
set_option maxRecDepth 100000 in
theorem law_c3 {p : Program} {l : Launch} {e : Env} {s : State} {m : MethodId} {below : List Frame} {meth : Method} {c : Code} {G : GG} {nm : String} {z L i : Nat} {xs : Nat → Int32} {Q : State → Prop} {a ar ac b : Nat → Nat} {ls : Array Slot} {H : Heap} {locs : List Loc} {wc wm : va_W} (X : CX p s m meth c #[Value.ref z] G wsL_law RL cL_law 4 nm (fun q => s.heap.size ≤ q)) (hX : va_X z L xs s s.heap) (hbl : z < s.heap.size) (hL : L ≤ 2048) (K : ∀ (H : Heap) (locs : List Loc) (wc wm : va_W), Inv G a ar ac b wc wm → WS G (fun q => s.heap.size ≤ q) s.heap H locs (wm ++ wc) → W p l e room_1 s m #[Value.ref z] below meth c H locs 65 1687 Q (F0 m 631 ls [])) (hl : lv_has ls 4 [(3, .int (nI i)), (2, .ref (b 0)), (1, .ref (a 0)), (0, .ref z)]) (hi : i + 4 ≤ L) (hI : Inv G a ar ac b wc wm) (hw : WS G (fun q => s.heap.size ≤ q) s.heap H locs (wm ++ wc)) : W p l e room_1 s m #[Value.ref z] below meth c H locs 65 1687 Q (F0 m 183 ls []) := by
  obtain ⟨hx, hb, -⟩ := id X
  have hbA : ¬ (fun q : Nat => s.heap.size ≤ q) z := Nat.not_le.mpr hbl
  refine lv_aload_n hx hb dL_law_183 rfl (lv_at hl 2 rfl) ?_
  refine lv_aload_n hx hb dL_law_184 rfl (lv_at hl 3 rfl) ?_
  refine lv_iload_n hx hb dL_law_185 rfl (lv_at hl 0 rfl) ?_
  refine lv_iconst (v := 1) hx hb dL_law_186 (by decide) ?_
  refine lv_iadd hx hb dL_law_187 ?_
  refine x_cvi (y := nI (i + 1)) (by exact nI_add i 1) ?_
  refine va_sld hx hb hX hbl hbA hw.2.2 (vp_in_nI (by omega) (by omega)) dL_law_188 ?_
  refine x_cvi (y := xs (i + 1)) (by rw [nI_clamp (by omega)]) ?_
  obtain ⟨PC, PM, hC, hM, hv, hk⟩ := o_station (l := l) (xs (i + 1)) hI
  obtain ⟨fs, he⟩ := inv_c hI
  refine xcVS (n := 1) (As := [.int (xs (i + 1))]) (rest := []) (X0 := wm) (wc := wc) X hw hC (C := RX7) gL_law_X7_station (q0 := wm.length) (ci := 4) (fs := fs) (by rw [List.getElem?_append_right (Nat.le_refl _), Nat.sub_self]; exact he) rfl rfl ⟨rfl, rfl⟩ (by decide +kernel) ⟨Nat.le_of_ble_eq_true rfl, Nat.le_of_ble_eq_true rfl⟩ rfl hl.1 rfl (Nat.le_of_ble_eq_true rfl) dL_law_189 ⟨Nat.le_of_ble_eq_true rfl, Nat.le_of_ble_eq_true rfl⟩ (fun r1 w1 H locs hp1 hw => ?_)
  obtain ⟨v, rfl⟩ := hv r1 w1 hp1
  refine W.eq (g2 := F0 m 192 ls [.int v]) rfl ?_
  have hw := ws_perm List.perm_append_comm hw
  obtain ⟨fs2, he2⟩ := inv_m hI
  refine lv_aload_n hx hb dL_law_192 rfl (lv_at hl 1 rfl) ?_
  refine lv_aload_n hx hb dL_law_193 rfl (lv_at hl 3 rfl) ?_
  refine lv_iload_n hx hb dL_law_194 rfl (lv_at hl 0 rfl) ?_
  refine lv_iconst (v := 1) hx hb dL_law_195 (by decide) ?_
  refine lv_iadd hx hb dL_law_196 ?_
  refine x_cvi (y := nI (i + 1)) (by exact nI_add i 1) ?_
  refine va_sld hx hb hX hbl hbA hw.2.2 (vp_in_nI (by omega) (by omega)) dL_law_197 ?_
  refine x_cvi (y := xs (i + 1)) (by rw [nI_clamp (by omega)]) ?_
  refine xcVS (n := 1) (As := [.int (xs (i + 1))]) (rest := [.int v]) (X0 := w1) (wc := wm) X hw hM (C := RX8) gL_law_X8_station (q0 := w1.length) (ci := 5) (fs := fs2) (by rw [List.getElem?_append_right (Nat.le_refl _), Nat.sub_self]; exact he2) rfl rfl ⟨rfl, rfl⟩ (by decide +kernel) ⟨Nat.le_of_ble_eq_true rfl, Nat.le_of_ble_eq_true rfl⟩ rfl hl.1 rfl (Nat.le_of_ble_eq_true rfl) dL_law_198 ⟨Nat.le_of_ble_eq_true rfl, Nat.le_of_ble_eq_true rfl⟩ (fun r2 w2 H locs hp2 hw => ?_)
  obtain ⟨v2, e1, e2, wc2, wm2, q1, q2, hI2⟩ := hk _ _ _ _ hp1 hp2
  cases e1
  subst e2
  refine W.eq (g2 := F0 m 201 ls [.int v, .int v]) rfl ?_
  refine lv_icmp_eq (tgt := 631) hx hb dL_law_201 (by decide) (fun h => ?_) (fun h => absurd rfl h)
  exact K _ _ _ _ hI2 (ws_perm (List.perm_append_comm.trans (q2.append q1)) hw)
set_option maxHeartbeats 4000000 in
set_option maxRecDepth 100000 in
theorem law_c4 {p : Program} {l : Launch} {e : Env} {s : State} {m : MethodId} {below : List Frame} {meth : Method} {c : Code} {G : GG} {nm : String} {z L i : Nat} {xs : Nat → Int32} {Q : State → Prop} {a ar ac b : Nat → Nat} {ls : Array Slot} {H : Heap} {locs : List Loc} {wc wm : va_W} (X : CX p s m meth c #[Value.ref z] G wsL_law RL cL_law 4 nm (fun q => s.heap.size ≤ q)) (hX : va_X z L xs s s.heap) (hbl : z < s.heap.size) (hL : L ≤ 2048) (K : ∀ (H : Heap) (locs : List Loc) (wc wm : va_W), Inv G a ar ac b wc wm → WS G (fun q => s.heap.size ≤ q) s.heap H locs (wm ++ wc) → W p l e room_1 s m #[Value.ref z] below meth c H locs 65 1687 Q (F0 m 631 ls [])) (hl : lv_has ls 4 [(3, .int (nI i)), (2, .ref (b 0)), (1, .ref (a 0)), (0, .ref z)]) (hi : i + 4 ≤ L) (hI : Inv G a ar ac b wc wm) (hw : WS G (fun q => s.heap.size ≤ q) s.heap H locs (wm ++ wc)) : W p l e room_1 s m #[Value.ref z] below meth c H locs 65 1687 Q (F0 m 206 ls []) := by
  obtain ⟨hx, hb, -⟩ := id X
  have hbA : ¬ (fun q : Nat => s.heap.size ≤ q) z := Nat.not_le.mpr hbl
  refine lv_aload_n hx hb dL_law_206 rfl (lv_at hl 2 rfl) ?_
  refine lv_aload_n hx hb dL_law_207 rfl (lv_at hl 3 rfl) ?_
  refine lv_iload_n hx hb dL_law_208 rfl (lv_at hl 0 rfl) ?_
  refine lv_iconst (v := 1) hx hb dL_law_209 (by decide) ?_
  refine lv_iadd hx hb dL_law_210 ?_
  refine x_cvi (y := nI (i + 1)) (by exact nI_add i 1) ?_
  refine va_sld hx hb hX hbl hbA hw.2.2 (vp_in_nI (by omega) (by omega)) dL_law_211 ?_
  refine x_cvi (y := xs (i + 1)) (by rw [nI_clamp (by omega)]) ?_
  obtain ⟨PC, PM, hC, hM, hv, hk⟩ := o_spacing (l := l) (xs (i + 1)) hI
  obtain ⟨fs, he⟩ := inv_c hI
  refine xcVS (n := 1) (As := [.int (xs (i + 1))]) (rest := []) (X0 := wm) (wc := wc) X hw hC (C := RX7) gL_law_X7_spacing (q0 := wm.length) (ci := 4) (fs := fs) (by rw [List.getElem?_append_right (Nat.le_refl _), Nat.sub_self]; exact he) rfl rfl ⟨rfl, rfl⟩ (by decide +kernel) ⟨Nat.le_of_ble_eq_true rfl, Nat.le_of_ble_eq_true rfl⟩ rfl hl.1 rfl (Nat.le_of_ble_eq_true rfl) dL_law_212 ⟨Nat.le_of_ble_eq_true rfl, Nat.le_of_ble_eq_true rfl⟩ (fun r1 w1 H locs hp1 hw => ?_)
  obtain ⟨v, rfl⟩ := hv r1 w1 hp1
  refine W.eq (g2 := F0 m 215 ls [.int v]) rfl ?_
  have hw := ws_perm List.perm_append_comm hw
  obtain ⟨fs2, he2⟩ := inv_m hI
  refine lv_aload_n hx hb dL_law_215 rfl (lv_at hl 1 rfl) ?_
  refine lv_aload_n hx hb dL_law_216 rfl (lv_at hl 3 rfl) ?_
  refine lv_iload_n hx hb dL_law_217 rfl (lv_at hl 0 rfl) ?_
  refine lv_iconst (v := 1) hx hb dL_law_218 (by decide) ?_
  refine lv_iadd hx hb dL_law_219 ?_
  refine x_cvi (y := nI (i + 1)) (by exact nI_add i 1) ?_
  refine va_sld hx hb hX hbl hbA hw.2.2 (vp_in_nI (by omega) (by omega)) dL_law_220 ?_
  refine x_cvi (y := xs (i + 1)) (by rw [nI_clamp (by omega)]) ?_
  refine xcVS (n := 1) (As := [.int (xs (i + 1))]) (rest := [.int v]) (X0 := w1) (wc := wm) X hw hM (C := RX8) gL_law_X8_spacing (q0 := w1.length) (ci := 5) (fs := fs2) (by rw [List.getElem?_append_right (Nat.le_refl _), Nat.sub_self]; exact he2) rfl rfl ⟨rfl, rfl⟩ (by decide +kernel) ⟨Nat.le_of_ble_eq_true rfl, Nat.le_of_ble_eq_true rfl⟩ rfl hl.1 rfl (Nat.le_of_ble_eq_true rfl) dL_law_221 ⟨Nat.le_of_ble_eq_true rfl, Nat.le_of_ble_eq_true rfl⟩ (fun r2 w2 H locs hp2 hw => ?_)
  obtain ⟨v2, e1, e2, wc2, wm2, q1, q2, hI2⟩ := hk _ _ _ _ hp1 hp2
  cases e1
  subst e2
  refine W.eq (g2 := F0 m 224 ls [.int v, .int v]) rfl ?_
  refine lv_icmp_eq (tgt := 631) hx hb dL_law_224 (by decide) (fun h => ?_) (fun h => absurd rfl h)
  exact K _ _ _ _ hI2 (ws_perm (List.perm_append_comm.trans (q2.append q1)) hw)
set_option maxHeartbeats 4000000 in
set_option maxRecDepth 100000 in
theorem law_c5 {p : Program} {l : Launch} {e : Env} {s : State} {m : MethodId} {below : List Frame} {meth : Method} {c : Code} {G : GG} {nm : String} {z L i : Nat} {xs : Nat → Int32} {Q : State → Prop} {a ar ac b : Nat → Nat} {ls : Array Slot} {H : Heap} {locs : List Loc} {wc wm : va_W} (X : CX p s m meth c #[Value.ref z] G wsL_law RL cL_law 4 nm (fun q => s.heap.size ≤ q)) (hX : va_X z L xs s s.heap) (hbl : z < s.heap.size) (hL : L ≤ 2048) (K : ∀ (H : Heap) (locs : List Loc) (wc wm : va_W), Inv G a ar ac b wc wm → WS G (fun q => s.heap.size ≤ q) s.heap H locs (wm ++ wc) → W p l e room_1 s m #[Value.ref z] below meth c H locs 65 1687 Q (F0 m 631 ls [])) (hl : lv_has ls 4 [(3, .int (nI i)), (2, .ref (b 0)), (1, .ref (a 0)), (0, .ref z)]) (hi : i + 4 ≤ L) (hI : Inv G a ar ac b wc wm) (hw : WS G (fun q => s.heap.size ≤ q) s.heap H locs (wm ++ wc)) : W p l e room_1 s m #[Value.ref z] below meth c H locs 65 1687 Q (F0 m 229 ls []) := by
  obtain ⟨hx, hb, -⟩ := id X
  have hbA : ¬ (fun q : Nat => s.heap.size ≤ q) z := Nat.not_le.mpr hbl
  refine lv_aload_n hx hb dL_law_229 rfl (lv_at hl 2 rfl) ?_
  refine lv_aload_n hx hb dL_law_230 rfl (lv_at hl 3 rfl) ?_
  refine lv_iload_n hx hb dL_law_231 rfl (lv_at hl 0 rfl) ?_
  refine lv_iconst (v := 1) hx hb dL_law_232 (by decide) ?_
  refine lv_iadd hx hb dL_law_233 ?_
  refine x_cvi (y := nI (i + 1)) (by exact nI_add i 1) ?_
  refine va_sld hx hb hX hbl hbA hw.2.2 (vp_in_nI (by omega) (by omega)) dL_law_234 ?_
  refine x_cvi (y := xs (i + 1)) (by rw [nI_clamp (by omega)]) ?_
  obtain ⟨PC, PM, hC, hM, hv, hk⟩ := o_facts (l := l) (xs (i + 1)) hI
  obtain ⟨fs, he⟩ := inv_c hI
  refine xcVS (n := 1) (As := [.int (xs (i + 1))]) (rest := []) (X0 := wm) (wc := wc) X hw hC (C := RX7) gL_law_X7_facts (q0 := wm.length) (ci := 4) (fs := fs) (by rw [List.getElem?_append_right (Nat.le_refl _), Nat.sub_self]; exact he) rfl rfl ⟨rfl, rfl⟩ (by decide +kernel) ⟨Nat.le_of_ble_eq_true rfl, Nat.le_of_ble_eq_true rfl⟩ rfl hl.1 rfl (Nat.le_of_ble_eq_true rfl) dL_law_235 ⟨Nat.le_of_ble_eq_true rfl, Nat.le_of_ble_eq_true rfl⟩ (fun r1 w1 H locs hp1 hw => ?_)
  obtain ⟨v, rfl⟩ := hv r1 w1 hp1
  refine W.eq (g2 := F0 m 238 ls [.int v]) rfl ?_
  have hw := ws_perm List.perm_append_comm hw
  obtain ⟨fs2, he2⟩ := inv_m hI
  refine lv_aload_n hx hb dL_law_238 rfl (lv_at hl 1 rfl) ?_
  refine lv_aload_n hx hb dL_law_239 rfl (lv_at hl 3 rfl) ?_
  refine lv_iload_n hx hb dL_law_240 rfl (lv_at hl 0 rfl) ?_
  refine lv_iconst (v := 1) hx hb dL_law_241 (by decide) ?_
  refine lv_iadd hx hb dL_law_242 ?_
  refine x_cvi (y := nI (i + 1)) (by exact nI_add i 1) ?_
  refine va_sld hx hb hX hbl hbA hw.2.2 (vp_in_nI (by omega) (by omega)) dL_law_243 ?_
  refine x_cvi (y := xs (i + 1)) (by rw [nI_clamp (by omega)]) ?_
  refine xcVS (n := 1) (As := [.int (xs (i + 1))]) (rest := [.int v]) (X0 := w1) (wc := wm) X hw hM (C := RX8) gL_law_X8_facts (q0 := w1.length) (ci := 5) (fs := fs2) (by rw [List.getElem?_append_right (Nat.le_refl _), Nat.sub_self]; exact he2) rfl rfl ⟨rfl, rfl⟩ (by decide +kernel) ⟨Nat.le_of_ble_eq_true rfl, Nat.le_of_ble_eq_true rfl⟩ rfl hl.1 rfl (Nat.le_of_ble_eq_true rfl) dL_law_244 ⟨Nat.le_of_ble_eq_true rfl, Nat.le_of_ble_eq_true rfl⟩ (fun r2 w2 H locs hp2 hw => ?_)
  obtain ⟨v2, e1, e2, wc2, wm2, q1, q2, hI2⟩ := hk _ _ _ _ hp1 hp2
  cases e1
  subst e2
  refine W.eq (g2 := F0 m 247 ls [.int v, .int v]) rfl ?_
  refine lv_icmp_eq (tgt := 631) hx hb dL_law_247 (by decide) (fun h => ?_) (fun h => absurd rfl h)
  exact K _ _ _ _ hI2 (ws_perm (List.perm_append_comm.trans (q2.append q1)) hw)
set_option maxHeartbeats 4000000 in
set_option maxRecDepth 100000 in
theorem law_c6 {p : Program} {l : Launch} {e : Env} {s : State} {m : MethodId} {below : List Frame} {meth : Method} {c : Code} {G : GG} {nm : String} {z L i : Nat} {xs : Nat → Int32} {Q : State → Prop} {a ar ac b : Nat → Nat} {ls : Array Slot} {H : Heap} {locs : List Loc} {wc wm : va_W} (X : CX p s m meth c #[Value.ref z] G wsL_law RL cL_law 4 nm (fun q => s.heap.size ≤ q)) (hX : va_X z L xs s s.heap) (hbl : z < s.heap.size) (hL : L ≤ 2048) (K : ∀ (H : Heap) (locs : List Loc) (wc wm : va_W), Inv G a ar ac b wc wm → WS G (fun q => s.heap.size ≤ q) s.heap H locs (wm ++ wc) → W p l e room_1 s m #[Value.ref z] below meth c H locs 65 1687 Q (F0 m 631 ls [])) (hl : lv_has ls 4 [(3, .int (nI i)), (2, .ref (b 0)), (1, .ref (a 0)), (0, .ref z)]) (hi : i + 4 ≤ L) (hI : Inv G a ar ac b wc wm) (hw : WS G (fun q => s.heap.size ≤ q) s.heap H locs (wm ++ wc)) : W p l e room_1 s m #[Value.ref z] below meth c H locs 65 1687 Q (F0 m 252 ls []) := by
  obtain ⟨hx, hb, -⟩ := id X
  have hbA : ¬ (fun q : Nat => s.heap.size ≤ q) z := Nat.not_le.mpr hbl
  refine lv_aload_n hx hb dL_law_252 rfl (lv_at hl 2 rfl) ?_
  refine lv_aload_n hx hb dL_law_253 rfl (lv_at hl 3 rfl) ?_
  refine lv_iload_n hx hb dL_law_254 rfl (lv_at hl 0 rfl) ?_
  refine lv_iconst (v := 1) hx hb dL_law_255 (by decide) ?_
  refine lv_iadd hx hb dL_law_256 ?_
  refine x_cvi (y := nI (i + 1)) (by exact nI_add i 1) ?_
  refine va_sld hx hb hX hbl hbA hw.2.2 (vp_in_nI (by omega) (by omega)) dL_law_257 ?_
  refine x_cvi (y := xs (i + 1)) (by rw [nI_clamp (by omega)]) ?_
  refine lv_aload_n hx hb dL_law_258 rfl (lv_at hl 3 rfl) ?_
  refine lv_iload_n hx hb dL_law_259 rfl (lv_at hl 0 rfl) ?_
  refine lv_iconst (v := 2) hx hb dL_law_260 (by decide) ?_
  refine lv_iadd hx hb dL_law_261 ?_
  refine x_cvi (y := nI (i + 2)) (by exact nI_add i 2) ?_
  refine va_sld hx hb hX hbl hbA hw.2.2 (vp_in_nI (by omega) (by omega)) dL_law_262 ?_
  refine x_cvi (y := xs (i + 2)) (by rw [nI_clamp (by omega)]) ?_
  obtain ⟨PC, PM, hC, hM, hv, hk⟩ := o_ruler (l := l) (xs (i + 1)) (xs (i + 2)) hI
  obtain ⟨fs, he⟩ := inv_c hI
  refine xcVS (n := 2) (As := [.int (xs (i + 1)), .int (xs (i + 2))]) (rest := []) (X0 := wm) (wc := wc) X hw hC (C := RX7) gL_law_X7_ruler (q0 := wm.length) (ci := 4) (fs := fs) (by rw [List.getElem?_append_right (Nat.le_refl _), Nat.sub_self]; exact he) rfl rfl ⟨rfl, rfl⟩ (by decide +kernel) ⟨Nat.le_of_ble_eq_true rfl, Nat.le_of_ble_eq_true rfl⟩ rfl hl.1 rfl (Nat.le_of_ble_eq_true rfl) dL_law_263 ⟨Nat.le_of_ble_eq_true rfl, Nat.le_of_ble_eq_true rfl⟩ (fun r1 w1 H locs hp1 hw => ?_)
  obtain ⟨v, rfl⟩ := hv r1 w1 hp1
  refine W.eq (g2 := F0 m 266 ls [.int v]) rfl ?_
  have hw := ws_perm List.perm_append_comm hw
  obtain ⟨fs2, he2⟩ := inv_m hI
  refine lv_aload_n hx hb dL_law_266 rfl (lv_at hl 1 rfl) ?_
  refine lv_aload_n hx hb dL_law_267 rfl (lv_at hl 3 rfl) ?_
  refine lv_iload_n hx hb dL_law_268 rfl (lv_at hl 0 rfl) ?_
  refine lv_iconst (v := 1) hx hb dL_law_269 (by decide) ?_
  refine lv_iadd hx hb dL_law_270 ?_
  refine x_cvi (y := nI (i + 1)) (by exact nI_add i 1) ?_
  refine va_sld hx hb hX hbl hbA hw.2.2 (vp_in_nI (by omega) (by omega)) dL_law_271 ?_
  refine x_cvi (y := xs (i + 1)) (by rw [nI_clamp (by omega)]) ?_
  refine lv_aload_n hx hb dL_law_272 rfl (lv_at hl 3 rfl) ?_
  refine lv_iload_n hx hb dL_law_273 rfl (lv_at hl 0 rfl) ?_
  refine lv_iconst (v := 2) hx hb dL_law_274 (by decide) ?_
  refine lv_iadd hx hb dL_law_275 ?_
  refine x_cvi (y := nI (i + 2)) (by exact nI_add i 2) ?_
  refine va_sld hx hb hX hbl hbA hw.2.2 (vp_in_nI (by omega) (by omega)) dL_law_276 ?_
  refine x_cvi (y := xs (i + 2)) (by rw [nI_clamp (by omega)]) ?_
  refine xcVS (n := 2) (As := [.int (xs (i + 1)), .int (xs (i + 2))]) (rest := [.int v]) (X0 := w1) (wc := wm) X hw hM (C := RX8) gL_law_X8_ruler (q0 := w1.length) (ci := 5) (fs := fs2) (by rw [List.getElem?_append_right (Nat.le_refl _), Nat.sub_self]; exact he2) rfl rfl ⟨rfl, rfl⟩ (by decide +kernel) ⟨Nat.le_of_ble_eq_true rfl, Nat.le_of_ble_eq_true rfl⟩ rfl hl.1 rfl (Nat.le_of_ble_eq_true rfl) dL_law_277 ⟨Nat.le_of_ble_eq_true rfl, Nat.le_of_ble_eq_true rfl⟩ (fun r2 w2 H locs hp2 hw => ?_)
  obtain ⟨v2, e1, e2, wc2, wm2, q1, q2, hI2⟩ := hk _ _ _ _ hp1 hp2
  cases e1
  subst e2
  refine W.eq (g2 := F0 m 280 ls [.int v, .int v]) rfl ?_
  refine lv_icmp_eq (tgt := 631) hx hb dL_law_280 (by decide) (fun h => ?_) (fun h => absurd rfl h)
  exact K _ _ _ _ hI2 (ws_perm (List.perm_append_comm.trans (q2.append q1)) hw)
set_option maxHeartbeats 4000000 in
set_option maxRecDepth 100000 in
theorem law_c7 {p : Program} {l : Launch} {e : Env} {s : State} {m : MethodId} {below : List Frame} {meth : Method} {c : Code} {G : GG} {nm : String} {z L i : Nat} {xs : Nat → Int32} {Q : State → Prop} {a ar ac b : Nat → Nat} {ls : Array Slot} {H : Heap} {locs : List Loc} {wc wm : va_W} (X : CX p s m meth c #[Value.ref z] G wsL_law RL cL_law 4 nm (fun q => s.heap.size ≤ q)) (hX : va_X z L xs s s.heap) (hbl : z < s.heap.size) (hL : L ≤ 2048) (K : ∀ (H : Heap) (locs : List Loc) (wc wm : va_W), Inv G a ar ac b wc wm → WS G (fun q => s.heap.size ≤ q) s.heap H locs (wm ++ wc) → W p l e room_1 s m #[Value.ref z] below meth c H locs 65 1687 Q (F0 m 631 ls [])) (hl : lv_has ls 4 [(3, .int (nI i)), (2, .ref (b 0)), (1, .ref (a 0)), (0, .ref z)]) (hi : i + 4 ≤ L) (hI : Inv G a ar ac b wc wm) (hw : WS G (fun q => s.heap.size ≤ q) s.heap H locs (wm ++ wc)) : W p l e room_1 s m #[Value.ref z] below meth c H locs 65 1687 Q (F0 m 285 ls []) := by
  obtain ⟨hx, hb, -⟩ := id X
  have hbA : ¬ (fun q : Nat => s.heap.size ≤ q) z := Nat.not_le.mpr hbl
  refine lv_aload_n hx hb dL_law_285 rfl (lv_at hl 2 rfl) ?_
  refine lv_aload_n hx hb dL_law_286 rfl (lv_at hl 3 rfl) ?_
  refine lv_iload_n hx hb dL_law_287 rfl (lv_at hl 0 rfl) ?_
  refine lv_iconst (v := 1) hx hb dL_law_288 (by decide) ?_
  refine lv_iadd hx hb dL_law_289 ?_
  refine x_cvi (y := nI (i + 1)) (by exact nI_add i 1) ?_
  refine va_sld hx hb hX hbl hbA hw.2.2 (vp_in_nI (by omega) (by omega)) dL_law_290 ?_
  refine x_cvi (y := xs (i + 1)) (by rw [nI_clamp (by omega)]) ?_
  refine lv_aload_n hx hb dL_law_291 rfl (lv_at hl 3 rfl) ?_
  refine lv_iload_n hx hb dL_law_292 rfl (lv_at hl 0 rfl) ?_
  refine lv_iconst (v := 2) hx hb dL_law_293 (by decide) ?_
  refine lv_iadd hx hb dL_law_294 ?_
  refine x_cvi (y := nI (i + 2)) (by exact nI_add i 2) ?_
  refine va_sld hx hb hX hbl hbA hw.2.2 (vp_in_nI (by omega) (by omega)) dL_law_295 ?_
  refine x_cvi (y := xs (i + 2)) (by rw [nI_clamp (by omega)]) ?_
  obtain ⟨PC, PM, hC, hM, hv, hk⟩ := o_cover (l := l) (xs (i + 1)) (xs (i + 2)) hI
  obtain ⟨fs, he⟩ := inv_c hI
  refine xcVS (n := 2) (As := [.int (xs (i + 1)), .int (xs (i + 2))]) (rest := []) (X0 := wm) (wc := wc) X hw hC (C := RX7) gL_law_X7_cover (q0 := wm.length) (ci := 4) (fs := fs) (by rw [List.getElem?_append_right (Nat.le_refl _), Nat.sub_self]; exact he) rfl rfl ⟨rfl, rfl⟩ (by decide +kernel) ⟨Nat.le_of_ble_eq_true rfl, Nat.le_of_ble_eq_true rfl⟩ rfl hl.1 rfl (Nat.le_of_ble_eq_true rfl) dL_law_296 ⟨Nat.le_of_ble_eq_true rfl, Nat.le_of_ble_eq_true rfl⟩ (fun r1 w1 H locs hp1 hw => ?_)
  obtain ⟨v, rfl⟩ := hv r1 w1 hp1
  refine W.eq (g2 := F0 m 299 ls [.int v]) rfl ?_
  have hw := ws_perm List.perm_append_comm hw
  obtain ⟨fs2, he2⟩ := inv_m hI
  refine lv_aload_n hx hb dL_law_299 rfl (lv_at hl 1 rfl) ?_
  refine lv_aload_n hx hb dL_law_300 rfl (lv_at hl 3 rfl) ?_
  refine lv_iload_n hx hb dL_law_301 rfl (lv_at hl 0 rfl) ?_
  refine lv_iconst (v := 1) hx hb dL_law_302 (by decide) ?_
  refine lv_iadd hx hb dL_law_303 ?_
  refine x_cvi (y := nI (i + 1)) (by exact nI_add i 1) ?_
  refine va_sld hx hb hX hbl hbA hw.2.2 (vp_in_nI (by omega) (by omega)) dL_law_304 ?_
  refine x_cvi (y := xs (i + 1)) (by rw [nI_clamp (by omega)]) ?_
  refine lv_aload_n hx hb dL_law_305 rfl (lv_at hl 3 rfl) ?_
  refine lv_iload_n hx hb dL_law_306 rfl (lv_at hl 0 rfl) ?_
  refine lv_iconst (v := 2) hx hb dL_law_307 (by decide) ?_
  refine lv_iadd hx hb dL_law_308 ?_
  refine x_cvi (y := nI (i + 2)) (by exact nI_add i 2) ?_
  refine va_sld hx hb hX hbl hbA hw.2.2 (vp_in_nI (by omega) (by omega)) dL_law_309 ?_
  refine x_cvi (y := xs (i + 2)) (by rw [nI_clamp (by omega)]) ?_
  refine xcVS (n := 2) (As := [.int (xs (i + 1)), .int (xs (i + 2))]) (rest := [.int v]) (X0 := w1) (wc := wm) X hw hM (C := RX8) gL_law_X8_cover (q0 := w1.length) (ci := 5) (fs := fs2) (by rw [List.getElem?_append_right (Nat.le_refl _), Nat.sub_self]; exact he2) rfl rfl ⟨rfl, rfl⟩ (by decide +kernel) ⟨Nat.le_of_ble_eq_true rfl, Nat.le_of_ble_eq_true rfl⟩ rfl hl.1 rfl (Nat.le_of_ble_eq_true rfl) dL_law_310 ⟨Nat.le_of_ble_eq_true rfl, Nat.le_of_ble_eq_true rfl⟩ (fun r2 w2 H locs hp2 hw => ?_)
  obtain ⟨v2, e1, e2, wc2, wm2, q1, q2, hI2⟩ := hk _ _ _ _ hp1 hp2
  cases e1
  subst e2
  refine W.eq (g2 := F0 m 313 ls [.int v, .int v]) rfl ?_
  refine lv_icmp_eq (tgt := 631) hx hb dL_law_313 (by decide) (fun h => ?_) (fun h => absurd rfl h)
  exact K _ _ _ _ hI2 (ws_perm (List.perm_append_comm.trans (q2.append q1)) hw)
set_option maxHeartbeats 4000000 in
set_option maxRecDepth 100000 in
theorem law_c8 {p : Program} {l : Launch} {e : Env} {s : State} {m : MethodId} {below : List Frame} {meth : Method} {c : Code} {G : GG} {nm : String} {z L i : Nat} {xs : Nat → Int32} {Q : State → Prop} {a ar ac b : Nat → Nat} {ls : Array Slot} {H : Heap} {locs : List Loc} {wc wm : va_W} (X : CX p s m meth c #[Value.ref z] G wsL_law RL cL_law 4 nm (fun q => s.heap.size ≤ q)) (hX : va_X z L xs s s.heap) (hbl : z < s.heap.size) (hL : L ≤ 2048) (K : ∀ (H : Heap) (locs : List Loc) (wc wm : va_W), Inv G a ar ac b wc wm → WS G (fun q => s.heap.size ≤ q) s.heap H locs (wm ++ wc) → W p l e room_1 s m #[Value.ref z] below meth c H locs 65 1687 Q (F0 m 631 ls [])) (hl : lv_has ls 4 [(3, .int (nI i)), (2, .ref (b 0)), (1, .ref (a 0)), (0, .ref z)]) (hi : i + 4 ≤ L) (hI : Inv G a ar ac b wc wm) (hw : WS G (fun q => s.heap.size ≤ q) s.heap H locs (wm ++ wc)) : W p l e room_1 s m #[Value.ref z] below meth c H locs 65 1687 Q (F0 m 318 ls []) := by
  obtain ⟨hx, hb, -⟩ := id X
  have hbA : ¬ (fun q : Nat => s.heap.size ≤ q) z := Nat.not_le.mpr hbl
  refine lv_aload_n hx hb dL_law_318 rfl (lv_at hl 2 rfl) ?_
  refine lv_aload_n hx hb dL_law_319 rfl (lv_at hl 3 rfl) ?_
  refine lv_iload_n hx hb dL_law_320 rfl (lv_at hl 0 rfl) ?_
  refine lv_iconst (v := 1) hx hb dL_law_321 (by decide) ?_
  refine lv_iadd hx hb dL_law_322 ?_
  refine x_cvi (y := nI (i + 1)) (by exact nI_add i 1) ?_
  refine va_sld hx hb hX hbl hbA hw.2.2 (vp_in_nI (by omega) (by omega)) dL_law_323 ?_
  refine x_cvi (y := xs (i + 1)) (by rw [nI_clamp (by omega)]) ?_
  refine lv_aload_n hx hb dL_law_324 rfl (lv_at hl 3 rfl) ?_
  refine lv_iload_n hx hb dL_law_325 rfl (lv_at hl 0 rfl) ?_
  refine lv_iconst (v := 2) hx hb dL_law_326 (by decide) ?_
  refine lv_iadd hx hb dL_law_327 ?_
  refine x_cvi (y := nI (i + 2)) (by exact nI_add i 2) ?_
  refine va_sld hx hb hX hbl hbA hw.2.2 (vp_in_nI (by omega) (by omega)) dL_law_328 ?_
  refine x_cvi (y := xs (i + 2)) (by rw [nI_clamp (by omega)]) ?_
  refine lv_aload_n hx hb dL_law_329 rfl (lv_at hl 3 rfl) ?_
  refine lv_iload_n hx hb dL_law_330 rfl (lv_at hl 0 rfl) ?_
  refine lv_iconst (v := 3) hx hb dL_law_331 (by decide) ?_
  refine lv_iadd hx hb dL_law_332 ?_
  refine x_cvi (y := nI (i + 3)) (by exact nI_add i 3) ?_
  refine va_sld hx hb hX hbl hbA hw.2.2 (vp_in_nI (by omega) (by omega)) dL_law_333 ?_
  refine x_cvi (y := xs (i + 3)) (by rw [nI_clamp (by omega)]) ?_
  obtain ⟨PC, PM, hC, hM, hv, hk⟩ := o_stand (l := l) (xs (i + 1)) (xs (i + 2)) (xs (i + 3)) hI
  obtain ⟨fs, he⟩ := inv_c hI
  refine xcVS (n := 3) (As := [.int (xs (i + 1)), .int (xs (i + 2)), .int (xs (i + 3))]) (rest := []) (X0 := wm) (wc := wc) X hw hC (C := RX7) gL_law_X7_stand (q0 := wm.length) (ci := 4) (fs := fs) (by rw [List.getElem?_append_right (Nat.le_refl _), Nat.sub_self]; exact he) rfl rfl ⟨rfl, rfl⟩ (by decide +kernel) ⟨Nat.le_of_ble_eq_true rfl, Nat.le_of_ble_eq_true rfl⟩ rfl hl.1 rfl (Nat.le_of_ble_eq_true rfl) dL_law_334 ⟨Nat.le_of_ble_eq_true rfl, Nat.le_of_ble_eq_true rfl⟩ (fun r1 w1 H locs hp1 hw => ?_)
  obtain ⟨v, rfl⟩ := hv r1 w1 hp1
  refine W.eq (g2 := F0 m 337 ls [.int v]) rfl ?_
  have hw := ws_perm List.perm_append_comm hw
  obtain ⟨fs2, he2⟩ := inv_m hI
  refine lv_aload_n hx hb dL_law_337 rfl (lv_at hl 1 rfl) ?_
  refine lv_aload_n hx hb dL_law_338 rfl (lv_at hl 3 rfl) ?_
  refine lv_iload_n hx hb dL_law_339 rfl (lv_at hl 0 rfl) ?_
  refine lv_iconst (v := 1) hx hb dL_law_340 (by decide) ?_
  refine lv_iadd hx hb dL_law_341 ?_
  refine x_cvi (y := nI (i + 1)) (by exact nI_add i 1) ?_
  refine va_sld hx hb hX hbl hbA hw.2.2 (vp_in_nI (by omega) (by omega)) dL_law_342 ?_
  refine x_cvi (y := xs (i + 1)) (by rw [nI_clamp (by omega)]) ?_
  refine lv_aload_n hx hb dL_law_343 rfl (lv_at hl 3 rfl) ?_
  refine lv_iload_n hx hb dL_law_344 rfl (lv_at hl 0 rfl) ?_
  refine lv_iconst (v := 2) hx hb dL_law_345 (by decide) ?_
  refine lv_iadd hx hb dL_law_346 ?_
  refine x_cvi (y := nI (i + 2)) (by exact nI_add i 2) ?_
  refine va_sld hx hb hX hbl hbA hw.2.2 (vp_in_nI (by omega) (by omega)) dL_law_347 ?_
  refine x_cvi (y := xs (i + 2)) (by rw [nI_clamp (by omega)]) ?_
  refine lv_aload_n hx hb dL_law_348 rfl (lv_at hl 3 rfl) ?_
  refine lv_iload_n hx hb dL_law_349 rfl (lv_at hl 0 rfl) ?_
  refine lv_iconst (v := 3) hx hb dL_law_350 (by decide) ?_
  refine lv_iadd hx hb dL_law_351 ?_
  refine x_cvi (y := nI (i + 3)) (by exact nI_add i 3) ?_
  refine va_sld hx hb hX hbl hbA hw.2.2 (vp_in_nI (by omega) (by omega)) dL_law_352 ?_
  refine x_cvi (y := xs (i + 3)) (by rw [nI_clamp (by omega)]) ?_
  refine xcVS (n := 3) (As := [.int (xs (i + 1)), .int (xs (i + 2)), .int (xs (i + 3))]) (rest := [.int v]) (X0 := w1) (wc := wm) X hw hM (C := RX8) gL_law_X8_stand (q0 := w1.length) (ci := 5) (fs := fs2) (by rw [List.getElem?_append_right (Nat.le_refl _), Nat.sub_self]; exact he2) rfl rfl ⟨rfl, rfl⟩ (by decide +kernel) ⟨Nat.le_of_ble_eq_true rfl, Nat.le_of_ble_eq_true rfl⟩ rfl hl.1 rfl (Nat.le_of_ble_eq_true rfl) dL_law_353 ⟨Nat.le_of_ble_eq_true rfl, Nat.le_of_ble_eq_true rfl⟩ (fun r2 w2 H locs hp2 hw => ?_)
  obtain ⟨v2, e1, e2, wc2, wm2, q1, q2, hI2⟩ := hk _ _ _ _ hp1 hp2
  cases e1
  subst e2
  refine W.eq (g2 := F0 m 356 ls [.int v, .int v]) rfl ?_
  refine lv_icmp_eq (tgt := 631) hx hb dL_law_356 (by decide) (fun h => ?_) (fun h => absurd rfl h)
  exact K _ _ _ _ hI2 (ws_perm (List.perm_append_comm.trans (q2.append q1)) hw)
set_option maxHeartbeats 4000000 in
set_option maxRecDepth 100000 in
theorem law_c9 {p : Program} {l : Launch} {e : Env} {s : State} {m : MethodId} {below : List Frame} {meth : Method} {c : Code} {G : GG} {nm : String} {z L i : Nat} {xs : Nat → Int32} {Q : State → Prop} {a ar ac b : Nat → Nat} {ls : Array Slot} {H : Heap} {locs : List Loc} {wc wm : va_W} (X : CX p s m meth c #[Value.ref z] G wsL_law RL cL_law 4 nm (fun q => s.heap.size ≤ q)) (hX : va_X z L xs s s.heap) (hbl : z < s.heap.size) (hL : L ≤ 2048) (K : ∀ (H : Heap) (locs : List Loc) (wc wm : va_W), Inv G a ar ac b wc wm → WS G (fun q => s.heap.size ≤ q) s.heap H locs (wm ++ wc) → W p l e room_1 s m #[Value.ref z] below meth c H locs 65 1687 Q (F0 m 631 ls [])) (hl : lv_has ls 4 [(3, .int (nI i)), (2, .ref (b 0)), (1, .ref (a 0)), (0, .ref z)]) (hi : i + 4 ≤ L) (hI : Inv G a ar ac b wc wm) (hw : WS G (fun q => s.heap.size ≤ q) s.heap H locs (wm ++ wc)) : W p l e room_1 s m #[Value.ref z] below meth c H locs 65 1687 Q (F0 m 361 ls []) := by
  obtain ⟨hx, hb, -⟩ := id X
  have hbA : ¬ (fun q : Nat => s.heap.size ≤ q) z := Nat.not_le.mpr hbl
  refine lv_aload_n hx hb dL_law_361 rfl (lv_at hl 2 rfl) ?_
  refine lv_aload_n hx hb dL_law_362 rfl (lv_at hl 3 rfl) ?_
  refine lv_iload_n hx hb dL_law_363 rfl (lv_at hl 0 rfl) ?_
  refine lv_iconst (v := 1) hx hb dL_law_364 (by decide) ?_
  refine lv_iadd hx hb dL_law_365 ?_
  refine x_cvi (y := nI (i + 1)) (by exact nI_add i 1) ?_
  refine va_sld hx hb hX hbl hbA hw.2.2 (vp_in_nI (by omega) (by omega)) dL_law_366 ?_
  refine x_cvi (y := xs (i + 1)) (by rw [nI_clamp (by omega)]) ?_
  refine lv_aload_n hx hb dL_law_367 rfl (lv_at hl 3 rfl) ?_
  refine lv_iload_n hx hb dL_law_368 rfl (lv_at hl 0 rfl) ?_
  refine lv_iconst (v := 2) hx hb dL_law_369 (by decide) ?_
  refine lv_iadd hx hb dL_law_370 ?_
  refine x_cvi (y := nI (i + 2)) (by exact nI_add i 2) ?_
  refine va_sld hx hb hX hbl hbA hw.2.2 (vp_in_nI (by omega) (by omega)) dL_law_371 ?_
  refine x_cvi (y := xs (i + 2)) (by rw [nI_clamp (by omega)]) ?_
  obtain ⟨PC, PM, hC, hM, hv, hk⟩ := o_error (l := l) (xs (i + 1)) (xs (i + 2)) hI
  obtain ⟨fs, he⟩ := inv_c hI
  refine xcVS (n := 2) (As := [.int (xs (i + 1)), .int (xs (i + 2))]) (rest := []) (X0 := wm) (wc := wc) X hw hC (C := RX7) gL_law_X7_error (q0 := wm.length) (ci := 4) (fs := fs) (by rw [List.getElem?_append_right (Nat.le_refl _), Nat.sub_self]; exact he) rfl rfl ⟨rfl, rfl⟩ (by decide +kernel) ⟨Nat.le_of_ble_eq_true rfl, Nat.le_of_ble_eq_true rfl⟩ rfl hl.1 rfl (Nat.le_of_ble_eq_true rfl) dL_law_372 ⟨Nat.le_of_ble_eq_true rfl, Nat.le_of_ble_eq_true rfl⟩ (fun r1 w1 H locs hp1 hw => ?_)
  obtain ⟨v, rfl⟩ := hv r1 w1 hp1
  refine W.eq (g2 := F0 m 375 ls [.int v]) rfl ?_
  have hw := ws_perm List.perm_append_comm hw
  obtain ⟨fs2, he2⟩ := inv_m hI
  refine lv_aload_n hx hb dL_law_375 rfl (lv_at hl 1 rfl) ?_
  refine lv_aload_n hx hb dL_law_376 rfl (lv_at hl 3 rfl) ?_
  refine lv_iload_n hx hb dL_law_377 rfl (lv_at hl 0 rfl) ?_
  refine lv_iconst (v := 1) hx hb dL_law_378 (by decide) ?_
  refine lv_iadd hx hb dL_law_379 ?_
  refine x_cvi (y := nI (i + 1)) (by exact nI_add i 1) ?_
  refine va_sld hx hb hX hbl hbA hw.2.2 (vp_in_nI (by omega) (by omega)) dL_law_380 ?_
  refine x_cvi (y := xs (i + 1)) (by rw [nI_clamp (by omega)]) ?_
  refine lv_aload_n hx hb dL_law_381 rfl (lv_at hl 3 rfl) ?_
  refine lv_iload_n hx hb dL_law_382 rfl (lv_at hl 0 rfl) ?_
  refine lv_iconst (v := 2) hx hb dL_law_383 (by decide) ?_
  refine lv_iadd hx hb dL_law_384 ?_
  refine x_cvi (y := nI (i + 2)) (by exact nI_add i 2) ?_
  refine va_sld hx hb hX hbl hbA hw.2.2 (vp_in_nI (by omega) (by omega)) dL_law_385 ?_
  refine x_cvi (y := xs (i + 2)) (by rw [nI_clamp (by omega)]) ?_
  refine xcVS (n := 2) (As := [.int (xs (i + 1)), .int (xs (i + 2))]) (rest := [.int v]) (X0 := w1) (wc := wm) X hw hM (C := RX8) gL_law_X8_error (q0 := w1.length) (ci := 5) (fs := fs2) (by rw [List.getElem?_append_right (Nat.le_refl _), Nat.sub_self]; exact he2) rfl rfl ⟨rfl, rfl⟩ (by decide +kernel) ⟨Nat.le_of_ble_eq_true rfl, Nat.le_of_ble_eq_true rfl⟩ rfl hl.1 rfl (Nat.le_of_ble_eq_true rfl) dL_law_386 ⟨Nat.le_of_ble_eq_true rfl, Nat.le_of_ble_eq_true rfl⟩ (fun r2 w2 H locs hp2 hw => ?_)
  obtain ⟨v2, e1, e2, wc2, wm2, q1, q2, hI2⟩ := hk _ _ _ _ hp1 hp2
  cases e1
  subst e2
  refine W.eq (g2 := F0 m 389 ls [.int v, .int v]) rfl ?_
  refine lv_icmp_eq (tgt := 631) hx hb dL_law_389 (by decide) (fun h => ?_) (fun h => absurd rfl h)
  exact K _ _ _ _ hI2 (ws_perm (List.perm_append_comm.trans (q2.append q1)) hw)
set_option maxHeartbeats 4000000 in
set_option maxRecDepth 100000 in
theorem law_c10 {p : Program} {l : Launch} {e : Env} {s : State} {m : MethodId} {below : List Frame} {meth : Method} {c : Code} {G : GG} {nm : String} {z L i : Nat} {xs : Nat → Int32} {Q : State → Prop} {a ar ac b : Nat → Nat} {ls : Array Slot} {H : Heap} {locs : List Loc} {wc wm : va_W} (X : CX p s m meth c #[Value.ref z] G wsL_law RL cL_law 4 nm (fun q => s.heap.size ≤ q)) (hX : va_X z L xs s s.heap) (hbl : z < s.heap.size) (hL : L ≤ 2048) (K : ∀ (H : Heap) (locs : List Loc) (wc wm : va_W), Inv G a ar ac b wc wm → WS G (fun q => s.heap.size ≤ q) s.heap H locs (wm ++ wc) → W p l e room_1 s m #[Value.ref z] below meth c H locs 65 1687 Q (F0 m 631 ls [])) (hl : lv_has ls 4 [(3, .int (nI i)), (2, .ref (b 0)), (1, .ref (a 0)), (0, .ref z)]) (hi : i + 4 ≤ L) (hI : Inv G a ar ac b wc wm) (hw : WS G (fun q => s.heap.size ≤ q) s.heap H locs (wm ++ wc)) : W p l e room_1 s m #[Value.ref z] below meth c H locs 65 1687 Q (F0 m 394 ls []) := by
  obtain ⟨hx, hb, -⟩ := id X
  have hbA : ¬ (fun q : Nat => s.heap.size ≤ q) z := Nat.not_le.mpr hbl
  refine lv_aload_n hx hb dL_law_394 rfl (lv_at hl 2 rfl) ?_
  refine lv_aload_n hx hb dL_law_395 rfl (lv_at hl 3 rfl) ?_
  refine lv_iload_n hx hb dL_law_396 rfl (lv_at hl 0 rfl) ?_
  refine lv_iconst (v := 1) hx hb dL_law_397 (by decide) ?_
  refine lv_iadd hx hb dL_law_398 ?_
  refine x_cvi (y := nI (i + 1)) (by exact nI_add i 1) ?_
  refine va_sld hx hb hX hbl hbA hw.2.2 (vp_in_nI (by omega) (by omega)) dL_law_399 ?_
  refine x_cvi (y := xs (i + 1)) (by rw [nI_clamp (by omega)]) ?_
  refine lv_aload_n hx hb dL_law_400 rfl (lv_at hl 3 rfl) ?_
  refine lv_iload_n hx hb dL_law_401 rfl (lv_at hl 0 rfl) ?_
  refine lv_iconst (v := 2) hx hb dL_law_402 (by decide) ?_
  refine lv_iadd hx hb dL_law_403 ?_
  refine x_cvi (y := nI (i + 2)) (by exact nI_add i 2) ?_
  refine va_sld hx hb hX hbl hbA hw.2.2 (vp_in_nI (by omega) (by omega)) dL_law_404 ?_
  refine x_cvi (y := xs (i + 2)) (by rw [nI_clamp (by omega)]) ?_
  obtain ⟨PC, PM, hC, hM, hv, hk⟩ := o_sky (l := l) (xs (i + 1)) (xs (i + 2)) hI
  obtain ⟨fs, he⟩ := inv_c hI
  refine xcVS (n := 2) (As := [.int (xs (i + 1)), .int (xs (i + 2))]) (rest := []) (X0 := wm) (wc := wc) X hw hC (C := RX7) gL_law_X7_sky (q0 := wm.length) (ci := 4) (fs := fs) (by rw [List.getElem?_append_right (Nat.le_refl _), Nat.sub_self]; exact he) rfl rfl ⟨rfl, rfl⟩ (by decide +kernel) ⟨Nat.le_of_ble_eq_true rfl, Nat.le_of_ble_eq_true rfl⟩ rfl hl.1 rfl (Nat.le_of_ble_eq_true rfl) dL_law_405 ⟨Nat.le_of_ble_eq_true rfl, Nat.le_of_ble_eq_true rfl⟩ (fun r1 w1 H locs hp1 hw => ?_)
  obtain ⟨v, rfl⟩ := hv r1 w1 hp1
  refine W.eq (g2 := F0 m 408 ls [.int v]) rfl ?_
  have hw := ws_perm List.perm_append_comm hw
  obtain ⟨fs2, he2⟩ := inv_m hI
  refine lv_aload_n hx hb dL_law_408 rfl (lv_at hl 1 rfl) ?_
  refine lv_aload_n hx hb dL_law_409 rfl (lv_at hl 3 rfl) ?_
  refine lv_iload_n hx hb dL_law_410 rfl (lv_at hl 0 rfl) ?_
  refine lv_iconst (v := 1) hx hb dL_law_411 (by decide) ?_
  refine lv_iadd hx hb dL_law_412 ?_
  refine x_cvi (y := nI (i + 1)) (by exact nI_add i 1) ?_
  refine va_sld hx hb hX hbl hbA hw.2.2 (vp_in_nI (by omega) (by omega)) dL_law_413 ?_
  refine x_cvi (y := xs (i + 1)) (by rw [nI_clamp (by omega)]) ?_
  refine lv_aload_n hx hb dL_law_414 rfl (lv_at hl 3 rfl) ?_
  refine lv_iload_n hx hb dL_law_415 rfl (lv_at hl 0 rfl) ?_
  refine lv_iconst (v := 2) hx hb dL_law_416 (by decide) ?_
  refine lv_iadd hx hb dL_law_417 ?_
  refine x_cvi (y := nI (i + 2)) (by exact nI_add i 2) ?_
  refine va_sld hx hb hX hbl hbA hw.2.2 (vp_in_nI (by omega) (by omega)) dL_law_418 ?_
  refine x_cvi (y := xs (i + 2)) (by rw [nI_clamp (by omega)]) ?_
  refine xcVS (n := 2) (As := [.int (xs (i + 1)), .int (xs (i + 2))]) (rest := [.int v]) (X0 := w1) (wc := wm) X hw hM (C := RX8) gL_law_X8_sky (q0 := w1.length) (ci := 5) (fs := fs2) (by rw [List.getElem?_append_right (Nat.le_refl _), Nat.sub_self]; exact he2) rfl rfl ⟨rfl, rfl⟩ (by decide +kernel) ⟨Nat.le_of_ble_eq_true rfl, Nat.le_of_ble_eq_true rfl⟩ rfl hl.1 rfl (Nat.le_of_ble_eq_true rfl) dL_law_419 ⟨Nat.le_of_ble_eq_true rfl, Nat.le_of_ble_eq_true rfl⟩ (fun r2 w2 H locs hp2 hw => ?_)
  obtain ⟨v2, e1, e2, wc2, wm2, q1, q2, hI2⟩ := hk _ _ _ _ hp1 hp2
  cases e1
  subst e2
  refine W.eq (g2 := F0 m 422 ls [.int v, .int v]) rfl ?_
  refine lv_icmp_eq (tgt := 631) hx hb dL_law_422 (by decide) (fun h => ?_) (fun h => absurd rfl h)
  exact K _ _ _ _ hI2 (ws_perm (List.perm_append_comm.trans (q2.append q1)) hw)
set_option maxHeartbeats 4000000 in
set_option maxRecDepth 100000 in
theorem law_c11 {p : Program} {l : Launch} {e : Env} {s : State} {m : MethodId} {below : List Frame} {meth : Method} {c : Code} {G : GG} {nm : String} {z L i : Nat} {xs : Nat → Int32} {Q : State → Prop} {a ar ac b : Nat → Nat} {ls : Array Slot} {H : Heap} {locs : List Loc} {wc wm : va_W} (X : CX p s m meth c #[Value.ref z] G wsL_law RL cL_law 4 nm (fun q => s.heap.size ≤ q)) (hX : va_X z L xs s s.heap) (hbl : z < s.heap.size) (hL : L ≤ 2048) (K : ∀ (H : Heap) (locs : List Loc) (wc wm : va_W), Inv G a ar ac b wc wm → WS G (fun q => s.heap.size ≤ q) s.heap H locs (wm ++ wc) → W p l e room_1 s m #[Value.ref z] below meth c H locs 65 1687 Q (F0 m 631 ls [])) (hl : lv_has ls 4 [(3, .int (nI i)), (2, .ref (b 0)), (1, .ref (a 0)), (0, .ref z)]) (hi : i + 4 ≤ L) (hI : Inv G a ar ac b wc wm) (hw : WS G (fun q => s.heap.size ≤ q) s.heap H locs (wm ++ wc)) : W p l e room_1 s m #[Value.ref z] below meth c H locs 65 1687 Q (F0 m 427 ls []) := by
  obtain ⟨hx, hb, -⟩ := id X
  have hbA : ¬ (fun q : Nat => s.heap.size ≤ q) z := Nat.not_le.mpr hbl
  refine lv_aload_n hx hb dL_law_427 rfl (lv_at hl 2 rfl) ?_
  refine lv_aload_n hx hb dL_law_428 rfl (lv_at hl 3 rfl) ?_
  refine lv_iload_n hx hb dL_law_429 rfl (lv_at hl 0 rfl) ?_
  refine lv_iconst (v := 1) hx hb dL_law_430 (by decide) ?_
  refine lv_iadd hx hb dL_law_431 ?_
  refine x_cvi (y := nI (i + 1)) (by exact nI_add i 1) ?_
  refine va_sld hx hb hX hbl hbA hw.2.2 (vp_in_nI (by omega) (by omega)) dL_law_432 ?_
  refine x_cvi (y := xs (i + 1)) (by rw [nI_clamp (by omega)]) ?_
  refine lv_aload_n hx hb dL_law_433 rfl (lv_at hl 3 rfl) ?_
  refine lv_iload_n hx hb dL_law_434 rfl (lv_at hl 0 rfl) ?_
  refine lv_iconst (v := 2) hx hb dL_law_435 (by decide) ?_
  refine lv_iadd hx hb dL_law_436 ?_
  refine x_cvi (y := nI (i + 2)) (by exact nI_add i 2) ?_
  refine va_sld hx hb hX hbl hbA hw.2.2 (vp_in_nI (by omega) (by omega)) dL_law_437 ?_
  refine x_cvi (y := xs (i + 2)) (by rw [nI_clamp (by omega)]) ?_
  obtain ⟨PC, PM, hC, hM, hv, hk⟩ := o_phase (l := l) (xs (i + 1)) (xs (i + 2)) hI
  obtain ⟨fs, he⟩ := inv_c hI
  refine xcVS (n := 2) (As := [.int (xs (i + 1)), .int (xs (i + 2))]) (rest := []) (X0 := wm) (wc := wc) X hw hC (C := RX7) gL_law_X7_phase (q0 := wm.length) (ci := 4) (fs := fs) (by rw [List.getElem?_append_right (Nat.le_refl _), Nat.sub_self]; exact he) rfl rfl ⟨rfl, rfl⟩ (by decide +kernel) ⟨Nat.le_of_ble_eq_true rfl, Nat.le_of_ble_eq_true rfl⟩ rfl hl.1 rfl (Nat.le_of_ble_eq_true rfl) dL_law_438 ⟨Nat.le_of_ble_eq_true rfl, Nat.le_of_ble_eq_true rfl⟩ (fun r1 w1 H locs hp1 hw => ?_)
  obtain ⟨v, rfl⟩ := hv r1 w1 hp1
  refine W.eq (g2 := F0 m 441 ls [.int v]) rfl ?_
  have hw := ws_perm List.perm_append_comm hw
  obtain ⟨fs2, he2⟩ := inv_m hI
  refine lv_aload_n hx hb dL_law_441 rfl (lv_at hl 1 rfl) ?_
  refine lv_aload_n hx hb dL_law_442 rfl (lv_at hl 3 rfl) ?_
  refine lv_iload_n hx hb dL_law_443 rfl (lv_at hl 0 rfl) ?_
  refine lv_iconst (v := 1) hx hb dL_law_444 (by decide) ?_
  refine lv_iadd hx hb dL_law_445 ?_
  refine x_cvi (y := nI (i + 1)) (by exact nI_add i 1) ?_
  refine va_sld hx hb hX hbl hbA hw.2.2 (vp_in_nI (by omega) (by omega)) dL_law_446 ?_
  refine x_cvi (y := xs (i + 1)) (by rw [nI_clamp (by omega)]) ?_
  refine lv_aload_n hx hb dL_law_447 rfl (lv_at hl 3 rfl) ?_
  refine lv_iload_n hx hb dL_law_448 rfl (lv_at hl 0 rfl) ?_
  refine lv_iconst (v := 2) hx hb dL_law_449 (by decide) ?_
  refine lv_iadd hx hb dL_law_450 ?_
  refine x_cvi (y := nI (i + 2)) (by exact nI_add i 2) ?_
  refine va_sld hx hb hX hbl hbA hw.2.2 (vp_in_nI (by omega) (by omega)) dL_law_451 ?_
  refine x_cvi (y := xs (i + 2)) (by rw [nI_clamp (by omega)]) ?_
  refine xcVS (n := 2) (As := [.int (xs (i + 1)), .int (xs (i + 2))]) (rest := [.int v]) (X0 := w1) (wc := wm) X hw hM (C := RX8) gL_law_X8_phase (q0 := w1.length) (ci := 5) (fs := fs2) (by rw [List.getElem?_append_right (Nat.le_refl _), Nat.sub_self]; exact he2) rfl rfl ⟨rfl, rfl⟩ (by decide +kernel) ⟨Nat.le_of_ble_eq_true rfl, Nat.le_of_ble_eq_true rfl⟩ rfl hl.1 rfl (Nat.le_of_ble_eq_true rfl) dL_law_452 ⟨Nat.le_of_ble_eq_true rfl, Nat.le_of_ble_eq_true rfl⟩ (fun r2 w2 H locs hp2 hw => ?_)
  obtain ⟨v2, e1, e2, wc2, wm2, q1, q2, hI2⟩ := hk _ _ _ _ hp1 hp2
  cases e1
  subst e2
  refine W.eq (g2 := F0 m 455 ls [.int v, .int v]) rfl ?_
  refine lv_icmp_eq (tgt := 631) hx hb dL_law_455 (by decide) (fun h => ?_) (fun h => absurd rfl h)
  exact K _ _ _ _ hI2 (ws_perm (List.perm_append_comm.trans (q2.append q1)) hw)
set_option maxHeartbeats 4000000 in
set_option maxRecDepth 100000 in
theorem law_c12 {p : Program} {l : Launch} {e : Env} {s : State} {m : MethodId} {below : List Frame} {meth : Method} {c : Code} {G : GG} {nm : String} {z L i : Nat} {xs : Nat → Int32} {Q : State → Prop} {a ar ac b : Nat → Nat} {ls : Array Slot} {H : Heap} {locs : List Loc} {wc wm : va_W} (X : CX p s m meth c #[Value.ref z] G wsL_law RL cL_law 4 nm (fun q => s.heap.size ≤ q)) (hX : va_X z L xs s s.heap) (hbl : z < s.heap.size) (hL : L ≤ 2048) (K : ∀ (H : Heap) (locs : List Loc) (wc wm : va_W), Inv G a ar ac b wc wm → WS G (fun q => s.heap.size ≤ q) s.heap H locs (wm ++ wc) → W p l e room_1 s m #[Value.ref z] below meth c H locs 65 1687 Q (F0 m 631 ls [])) (hl : lv_has ls 4 [(3, .int (nI i)), (2, .ref (b 0)), (1, .ref (a 0)), (0, .ref z)]) (hi : i + 4 ≤ L) (hI : Inv G a ar ac b wc wm) (hw : WS G (fun q => s.heap.size ≤ q) s.heap H locs (wm ++ wc)) : W p l e room_1 s m #[Value.ref z] below meth c H locs 65 1687 Q (F0 m 460 ls []) := by
  obtain ⟨hx, hb, -⟩ := id X
  have hbA : ¬ (fun q : Nat => s.heap.size ≤ q) z := Nat.not_le.mpr hbl
  refine lv_aload_n hx hb dL_law_460 rfl (lv_at hl 2 rfl) ?_
  refine lv_aload_n hx hb dL_law_461 rfl (lv_at hl 3 rfl) ?_
  refine lv_iload_n hx hb dL_law_462 rfl (lv_at hl 0 rfl) ?_
  refine lv_iconst (v := 1) hx hb dL_law_463 (by decide) ?_
  refine lv_iadd hx hb dL_law_464 ?_
  refine x_cvi (y := nI (i + 1)) (by exact nI_add i 1) ?_
  refine va_sld hx hb hX hbl hbA hw.2.2 (vp_in_nI (by omega) (by omega)) dL_law_465 ?_
  refine x_cvi (y := xs (i + 1)) (by rw [nI_clamp (by omega)]) ?_
  refine lv_aload_n hx hb dL_law_466 rfl (lv_at hl 3 rfl) ?_
  refine lv_iload_n hx hb dL_law_467 rfl (lv_at hl 0 rfl) ?_
  refine lv_iconst (v := 2) hx hb dL_law_468 (by decide) ?_
  refine lv_iadd hx hb dL_law_469 ?_
  refine x_cvi (y := nI (i + 2)) (by exact nI_add i 2) ?_
  refine va_sld hx hb hX hbl hbA hw.2.2 (vp_in_nI (by omega) (by omega)) dL_law_470 ?_
  refine x_cvi (y := xs (i + 2)) (by rw [nI_clamp (by omega)]) ?_
  refine lv_aload_n hx hb dL_law_471 rfl (lv_at hl 3 rfl) ?_
  refine lv_iload_n hx hb dL_law_472 rfl (lv_at hl 0 rfl) ?_
  refine lv_iconst (v := 3) hx hb dL_law_473 (by decide) ?_
  refine lv_iadd hx hb dL_law_474 ?_
  refine x_cvi (y := nI (i + 3)) (by exact nI_add i 3) ?_
  refine va_sld hx hb hX hbl hbA hw.2.2 (vp_in_nI (by omega) (by omega)) dL_law_475 ?_
  refine x_cvi (y := xs (i + 3)) (by rw [nI_clamp (by omega)]) ?_
  obtain ⟨PC, PM, hC, hM, hv, hk⟩ := o_closure (l := l) (xs (i + 1)) (xs (i + 2)) (xs (i + 3)) hI
  obtain ⟨fs, he⟩ := inv_c hI
  refine xcVS (n := 3) (As := [.int (xs (i + 1)), .int (xs (i + 2)), .int (xs (i + 3))]) (rest := []) (X0 := wm) (wc := wc) X hw hC (C := RX7) gL_law_X7_closure (q0 := wm.length) (ci := 4) (fs := fs) (by rw [List.getElem?_append_right (Nat.le_refl _), Nat.sub_self]; exact he) rfl rfl ⟨rfl, rfl⟩ (by decide +kernel) ⟨Nat.le_of_ble_eq_true rfl, Nat.le_of_ble_eq_true rfl⟩ rfl hl.1 rfl (Nat.le_of_ble_eq_true rfl) dL_law_476 ⟨Nat.le_of_ble_eq_true rfl, Nat.le_of_ble_eq_true rfl⟩ (fun r1 w1 H locs hp1 hw => ?_)
  obtain ⟨v, rfl⟩ := hv r1 w1 hp1
  refine W.eq (g2 := F0 m 479 ls [.int v]) rfl ?_
  have hw := ws_perm List.perm_append_comm hw
  obtain ⟨fs2, he2⟩ := inv_m hI
  refine lv_aload_n hx hb dL_law_479 rfl (lv_at hl 1 rfl) ?_
  refine lv_aload_n hx hb dL_law_480 rfl (lv_at hl 3 rfl) ?_
  refine lv_iload_n hx hb dL_law_481 rfl (lv_at hl 0 rfl) ?_
  refine lv_iconst (v := 1) hx hb dL_law_482 (by decide) ?_
  refine lv_iadd hx hb dL_law_483 ?_
  refine x_cvi (y := nI (i + 1)) (by exact nI_add i 1) ?_
  refine va_sld hx hb hX hbl hbA hw.2.2 (vp_in_nI (by omega) (by omega)) dL_law_484 ?_
  refine x_cvi (y := xs (i + 1)) (by rw [nI_clamp (by omega)]) ?_
  refine lv_aload_n hx hb dL_law_485 rfl (lv_at hl 3 rfl) ?_
  refine lv_iload_n hx hb dL_law_486 rfl (lv_at hl 0 rfl) ?_
  refine lv_iconst (v := 2) hx hb dL_law_487 (by decide) ?_
  refine lv_iadd hx hb dL_law_488 ?_
  refine x_cvi (y := nI (i + 2)) (by exact nI_add i 2) ?_
  refine va_sld hx hb hX hbl hbA hw.2.2 (vp_in_nI (by omega) (by omega)) dL_law_489 ?_
  refine x_cvi (y := xs (i + 2)) (by rw [nI_clamp (by omega)]) ?_
  refine lv_aload_n hx hb dL_law_490 rfl (lv_at hl 3 rfl) ?_
  refine lv_iload_n hx hb dL_law_491 rfl (lv_at hl 0 rfl) ?_
  refine lv_iconst (v := 3) hx hb dL_law_492 (by decide) ?_
  refine lv_iadd hx hb dL_law_493 ?_
  refine x_cvi (y := nI (i + 3)) (by exact nI_add i 3) ?_
  refine va_sld hx hb hX hbl hbA hw.2.2 (vp_in_nI (by omega) (by omega)) dL_law_494 ?_
  refine x_cvi (y := xs (i + 3)) (by rw [nI_clamp (by omega)]) ?_
  refine xcVS (n := 3) (As := [.int (xs (i + 1)), .int (xs (i + 2)), .int (xs (i + 3))]) (rest := [.int v]) (X0 := w1) (wc := wm) X hw hM (C := RX8) gL_law_X8_closure (q0 := w1.length) (ci := 5) (fs := fs2) (by rw [List.getElem?_append_right (Nat.le_refl _), Nat.sub_self]; exact he2) rfl rfl ⟨rfl, rfl⟩ (by decide +kernel) ⟨Nat.le_of_ble_eq_true rfl, Nat.le_of_ble_eq_true rfl⟩ rfl hl.1 rfl (Nat.le_of_ble_eq_true rfl) dL_law_495 ⟨Nat.le_of_ble_eq_true rfl, Nat.le_of_ble_eq_true rfl⟩ (fun r2 w2 H locs hp2 hw => ?_)
  obtain ⟨v2, e1, e2, wc2, wm2, q1, q2, hI2⟩ := hk _ _ _ _ hp1 hp2
  cases e1
  subst e2
  refine W.eq (g2 := F0 m 498 ls [.int v, .int v]) rfl ?_
  refine lv_icmp_eq (tgt := 631) hx hb dL_law_498 (by decide) (fun h => ?_) (fun h => absurd rfl h)
  exact K _ _ _ _ hI2 (ws_perm (List.perm_append_comm.trans (q2.append q1)) hw)
set_option maxHeartbeats 4000000 in
set_option maxRecDepth 100000 in
theorem law_c13 {p : Program} {l : Launch} {e : Env} {s : State} {m : MethodId} {below : List Frame} {meth : Method} {c : Code} {G : GG} {nm : String} {z L i : Nat} {xs : Nat → Int32} {Q : State → Prop} {a ar ac b : Nat → Nat} {ls : Array Slot} {H : Heap} {locs : List Loc} {wc wm : va_W} (X : CX p s m meth c #[Value.ref z] G wsL_law RL cL_law 4 nm (fun q => s.heap.size ≤ q)) (hX : va_X z L xs s s.heap) (hbl : z < s.heap.size) (hL : L ≤ 2048) (K : ∀ (H : Heap) (locs : List Loc) (wc wm : va_W), Inv G a ar ac b wc wm → WS G (fun q => s.heap.size ≤ q) s.heap H locs (wm ++ wc) → W p l e room_1 s m #[Value.ref z] below meth c H locs 65 1687 Q (F0 m 631 ls [])) (hl : lv_has ls 4 [(3, .int (nI i)), (2, .ref (b 0)), (1, .ref (a 0)), (0, .ref z)]) (hi : i + 4 ≤ L) (hI : Inv G a ar ac b wc wm) (hw : WS G (fun q => s.heap.size ≤ q) s.heap H locs (wm ++ wc)) : W p l e room_1 s m #[Value.ref z] below meth c H locs 65 1687 Q (F0 m 503 ls []) := by
  obtain ⟨hx, hb, -⟩ := id X
  have hbA : ¬ (fun q : Nat => s.heap.size ≤ q) z := Nat.not_le.mpr hbl
  refine lv_aload_n hx hb dL_law_503 rfl (lv_at hl 2 rfl) ?_
  refine lv_aload_n hx hb dL_law_504 rfl (lv_at hl 3 rfl) ?_
  refine lv_iload_n hx hb dL_law_505 rfl (lv_at hl 0 rfl) ?_
  refine lv_iconst (v := 1) hx hb dL_law_506 (by decide) ?_
  refine lv_iadd hx hb dL_law_507 ?_
  refine x_cvi (y := nI (i + 1)) (by exact nI_add i 1) ?_
  refine va_sld hx hb hX hbl hbA hw.2.2 (vp_in_nI (by omega) (by omega)) dL_law_508 ?_
  refine x_cvi (y := xs (i + 1)) (by rw [nI_clamp (by omega)]) ?_
  obtain ⟨PC, PM, hC, hM, hv, hk⟩ := o_left (l := l) (xs (i + 1)) hI
  obtain ⟨fs, he⟩ := inv_c hI
  refine xcVS (n := 1) (As := [.int (xs (i + 1))]) (rest := []) (X0 := wm) (wc := wc) X hw hC (C := RX7) gL_law_X7_left (q0 := wm.length) (ci := 4) (fs := fs) (by rw [List.getElem?_append_right (Nat.le_refl _), Nat.sub_self]; exact he) rfl rfl ⟨rfl, rfl⟩ (by decide +kernel) ⟨Nat.le_of_ble_eq_true rfl, Nat.le_of_ble_eq_true rfl⟩ rfl hl.1 rfl (Nat.le_of_ble_eq_true rfl) dL_law_509 ⟨Nat.le_of_ble_eq_true rfl, Nat.le_of_ble_eq_true rfl⟩ (fun r1 w1 H locs hp1 hw => ?_)
  obtain ⟨v, rfl⟩ := hv r1 w1 hp1
  refine W.eq (g2 := F0 m 512 ls [.int v]) rfl ?_
  have hw := ws_perm List.perm_append_comm hw
  obtain ⟨fs2, he2⟩ := inv_m hI
  refine lv_aload_n hx hb dL_law_512 rfl (lv_at hl 1 rfl) ?_
  refine lv_aload_n hx hb dL_law_513 rfl (lv_at hl 3 rfl) ?_
  refine lv_iload_n hx hb dL_law_514 rfl (lv_at hl 0 rfl) ?_
  refine lv_iconst (v := 1) hx hb dL_law_515 (by decide) ?_
  refine lv_iadd hx hb dL_law_516 ?_
  refine x_cvi (y := nI (i + 1)) (by exact nI_add i 1) ?_
  refine va_sld hx hb hX hbl hbA hw.2.2 (vp_in_nI (by omega) (by omega)) dL_law_517 ?_
  refine x_cvi (y := xs (i + 1)) (by rw [nI_clamp (by omega)]) ?_
  refine xcVS (n := 1) (As := [.int (xs (i + 1))]) (rest := [.int v]) (X0 := w1) (wc := wm) X hw hM (C := RX8) gL_law_X8_left (q0 := w1.length) (ci := 5) (fs := fs2) (by rw [List.getElem?_append_right (Nat.le_refl _), Nat.sub_self]; exact he2) rfl rfl ⟨rfl, rfl⟩ (by decide +kernel) ⟨Nat.le_of_ble_eq_true rfl, Nat.le_of_ble_eq_true rfl⟩ rfl hl.1 rfl (Nat.le_of_ble_eq_true rfl) dL_law_518 ⟨Nat.le_of_ble_eq_true rfl, Nat.le_of_ble_eq_true rfl⟩ (fun r2 w2 H locs hp2 hw => ?_)
  obtain ⟨v2, e1, e2, wc2, wm2, q1, q2, hI2⟩ := hk _ _ _ _ hp1 hp2
  cases e1
  subst e2
  refine W.eq (g2 := F0 m 521 ls [.int v, .int v]) rfl ?_
  refine lv_icmp_eq (tgt := 631) hx hb dL_law_521 (by decide) (fun h => ?_) (fun h => absurd rfl h)
  exact K _ _ _ _ hI2 (ws_perm (List.perm_append_comm.trans (q2.append q1)) hw)
set_option maxHeartbeats 4000000 in
set_option maxRecDepth 100000 in
theorem law_c14 {p : Program} {l : Launch} {e : Env} {s : State} {m : MethodId} {below : List Frame} {meth : Method} {c : Code} {G : GG} {nm : String} {z L i : Nat} {xs : Nat → Int32} {Q : State → Prop} {a ar ac b : Nat → Nat} {ls : Array Slot} {H : Heap} {locs : List Loc} {wc wm : va_W} (X : CX p s m meth c #[Value.ref z] G wsL_law RL cL_law 4 nm (fun q => s.heap.size ≤ q)) (hX : va_X z L xs s s.heap) (hbl : z < s.heap.size) (hL : L ≤ 2048) (K : ∀ (H : Heap) (locs : List Loc) (wc wm : va_W), Inv G a ar ac b wc wm → WS G (fun q => s.heap.size ≤ q) s.heap H locs (wm ++ wc) → W p l e room_1 s m #[Value.ref z] below meth c H locs 65 1687 Q (F0 m 631 ls [])) (hl : lv_has ls 4 [(3, .int (nI i)), (2, .ref (b 0)), (1, .ref (a 0)), (0, .ref z)]) (hi : i + 4 ≤ L) (hI : Inv G a ar ac b wc wm) (hw : WS G (fun q => s.heap.size ≤ q) s.heap H locs (wm ++ wc)) : W p l e room_1 s m #[Value.ref z] below meth c H locs 65 1687 Q (F0 m 526 ls []) := by
  obtain ⟨hx, hb, -⟩ := id X
  have hbA : ¬ (fun q : Nat => s.heap.size ≤ q) z := Nat.not_le.mpr hbl
  refine lv_aload_n hx hb dL_law_526 rfl (lv_at hl 2 rfl) ?_
  refine lv_aload_n hx hb dL_law_527 rfl (lv_at hl 3 rfl) ?_
  refine lv_iload_n hx hb dL_law_528 rfl (lv_at hl 0 rfl) ?_
  refine lv_iconst (v := 1) hx hb dL_law_529 (by decide) ?_
  refine lv_iadd hx hb dL_law_530 ?_
  refine x_cvi (y := nI (i + 1)) (by exact nI_add i 1) ?_
  refine va_sld hx hb hX hbl hbA hw.2.2 (vp_in_nI (by omega) (by omega)) dL_law_531 ?_
  refine x_cvi (y := xs (i + 1)) (by rw [nI_clamp (by omega)]) ?_
  obtain ⟨PC, PM, hC, hM, hv, hk⟩ := o_missed (l := l) (xs (i + 1)) hI
  obtain ⟨fs, he⟩ := inv_c hI
  refine xcVS (n := 1) (As := [.int (xs (i + 1))]) (rest := []) (X0 := wm) (wc := wc) X hw hC (C := RX7) gL_law_X7_missed (q0 := wm.length) (ci := 4) (fs := fs) (by rw [List.getElem?_append_right (Nat.le_refl _), Nat.sub_self]; exact he) rfl rfl ⟨rfl, rfl⟩ (by decide +kernel) ⟨Nat.le_of_ble_eq_true rfl, Nat.le_of_ble_eq_true rfl⟩ rfl hl.1 rfl (Nat.le_of_ble_eq_true rfl) dL_law_532 ⟨Nat.le_of_ble_eq_true rfl, Nat.le_of_ble_eq_true rfl⟩ (fun r1 w1 H locs hp1 hw => ?_)
  obtain ⟨v, rfl⟩ := hv r1 w1 hp1
  refine W.eq (g2 := F0 m 535 ls [.int v]) rfl ?_
  have hw := ws_perm List.perm_append_comm hw
  obtain ⟨fs2, he2⟩ := inv_m hI
  refine lv_aload_n hx hb dL_law_535 rfl (lv_at hl 1 rfl) ?_
  refine lv_aload_n hx hb dL_law_536 rfl (lv_at hl 3 rfl) ?_
  refine lv_iload_n hx hb dL_law_537 rfl (lv_at hl 0 rfl) ?_
  refine lv_iconst (v := 1) hx hb dL_law_538 (by decide) ?_
  refine lv_iadd hx hb dL_law_539 ?_
  refine x_cvi (y := nI (i + 1)) (by exact nI_add i 1) ?_
  refine va_sld hx hb hX hbl hbA hw.2.2 (vp_in_nI (by omega) (by omega)) dL_law_540 ?_
  refine x_cvi (y := xs (i + 1)) (by rw [nI_clamp (by omega)]) ?_
  refine xcVS (n := 1) (As := [.int (xs (i + 1))]) (rest := [.int v]) (X0 := w1) (wc := wm) X hw hM (C := RX8) gL_law_X8_missed (q0 := w1.length) (ci := 5) (fs := fs2) (by rw [List.getElem?_append_right (Nat.le_refl _), Nat.sub_self]; exact he2) rfl rfl ⟨rfl, rfl⟩ (by decide +kernel) ⟨Nat.le_of_ble_eq_true rfl, Nat.le_of_ble_eq_true rfl⟩ rfl hl.1 rfl (Nat.le_of_ble_eq_true rfl) dL_law_541 ⟨Nat.le_of_ble_eq_true rfl, Nat.le_of_ble_eq_true rfl⟩ (fun r2 w2 H locs hp2 hw => ?_)
  obtain ⟨v2, e1, e2, wc2, wm2, q1, q2, hI2⟩ := hk _ _ _ _ hp1 hp2
  cases e1
  subst e2
  refine W.eq (g2 := F0 m 544 ls [.int v, .int v]) rfl ?_
  refine lv_icmp_eq (tgt := 631) hx hb dL_law_544 (by decide) (fun h => ?_) (fun h => absurd rfl h)
  exact K _ _ _ _ hI2 (ws_perm (List.perm_append_comm.trans (q2.append q1)) hw)
set_option maxHeartbeats 4000000 in
set_option maxRecDepth 100000 in
theorem law_c15 {p : Program} {l : Launch} {e : Env} {s : State} {m : MethodId} {below : List Frame} {meth : Method} {c : Code} {G : GG} {nm : String} {z L i : Nat} {xs : Nat → Int32} {Q : State → Prop} {a ar ac b : Nat → Nat} {ls : Array Slot} {H : Heap} {locs : List Loc} {wc wm : va_W} (X : CX p s m meth c #[Value.ref z] G wsL_law RL cL_law 4 nm (fun q => s.heap.size ≤ q)) (hX : va_X z L xs s s.heap) (hbl : z < s.heap.size) (hL : L ≤ 2048) (K : ∀ (H : Heap) (locs : List Loc) (wc wm : va_W), Inv G a ar ac b wc wm → WS G (fun q => s.heap.size ≤ q) s.heap H locs (wm ++ wc) → W p l e room_1 s m #[Value.ref z] below meth c H locs 65 1687 Q (F0 m 631 ls [])) (hl : lv_has ls 4 [(3, .int (nI i)), (2, .ref (b 0)), (1, .ref (a 0)), (0, .ref z)]) (hi : i + 4 ≤ L) (hI : Inv G a ar ac b wc wm) (hw : WS G (fun q => s.heap.size ≤ q) s.heap H locs (wm ++ wc)) : W p l e room_1 s m #[Value.ref z] below meth c H locs 65 1687 Q (F0 m 549 ls []) := by
  obtain ⟨hx, hb, -⟩ := id X
  have hbA : ¬ (fun q : Nat => s.heap.size ≤ q) z := Nat.not_le.mpr hbl
  refine lv_aload_n hx hb dL_law_549 rfl (lv_at hl 2 rfl) ?_
  obtain ⟨PC, PM, hC, hM, hv, hk⟩ := o_sure (l := l)  hI
  obtain ⟨fs, he⟩ := inv_c hI
  refine xcVS (n := 0) (As := []) (rest := []) (X0 := wm) (wc := wc) X hw hC (C := RX7) gL_law_X7_sure (q0 := wm.length) (ci := 4) (fs := fs) (by rw [List.getElem?_append_right (Nat.le_refl _), Nat.sub_self]; exact he) rfl rfl ⟨rfl, rfl⟩ (by decide +kernel) ⟨Nat.le_of_ble_eq_true rfl, Nat.le_of_ble_eq_true rfl⟩ rfl hl.1 rfl (Nat.le_of_ble_eq_true rfl) dL_law_550 ⟨Nat.le_of_ble_eq_true rfl, Nat.le_of_ble_eq_true rfl⟩ (fun r1 w1 H locs hp1 hw => ?_)
  obtain ⟨v, rfl⟩ := hv r1 w1 hp1
  refine W.eq (g2 := F0 m 553 ls [.int v]) rfl ?_
  have hw := ws_perm List.perm_append_comm hw
  obtain ⟨fs2, he2⟩ := inv_m hI
  refine lv_aload_n hx hb dL_law_553 rfl (lv_at hl 1 rfl) ?_
  refine xcVS (n := 0) (As := []) (rest := [.int v]) (X0 := w1) (wc := wm) X hw hM (C := RX8) gL_law_X8_sure (q0 := w1.length) (ci := 5) (fs := fs2) (by rw [List.getElem?_append_right (Nat.le_refl _), Nat.sub_self]; exact he2) rfl rfl ⟨rfl, rfl⟩ (by decide +kernel) ⟨Nat.le_of_ble_eq_true rfl, Nat.le_of_ble_eq_true rfl⟩ rfl hl.1 rfl (Nat.le_of_ble_eq_true rfl) dL_law_554 ⟨Nat.le_of_ble_eq_true rfl, Nat.le_of_ble_eq_true rfl⟩ (fun r2 w2 H locs hp2 hw => ?_)
  obtain ⟨v2, e1, e2, wc2, wm2, q1, q2, hI2⟩ := hk _ _ _ _ hp1 hp2
  cases e1
  subst e2
  refine W.eq (g2 := F0 m 557 ls [.int v, .int v]) rfl ?_
  refine lv_icmp_eq (tgt := 631) hx hb dL_law_557 (by decide) (fun h => ?_) (fun h => absurd rfl h)
  exact K _ _ _ _ hI2 (ws_perm (List.perm_append_comm.trans (q2.append q1)) hw)
set_option maxHeartbeats 4000000 in
set_option maxRecDepth 100000 in
theorem law_c16 {p : Program} {l : Launch} {e : Env} {s : State} {m : MethodId} {below : List Frame} {meth : Method} {c : Code} {G : GG} {nm : String} {z L i : Nat} {xs : Nat → Int32} {Q : State → Prop} {a ar ac b : Nat → Nat} {ls : Array Slot} {H : Heap} {locs : List Loc} {wc wm : va_W} (X : CX p s m meth c #[Value.ref z] G wsL_law RL cL_law 4 nm (fun q => s.heap.size ≤ q)) (hX : va_X z L xs s s.heap) (hbl : z < s.heap.size) (hL : L ≤ 2048) (K : ∀ (H : Heap) (locs : List Loc) (wc wm : va_W), Inv G a ar ac b wc wm → WS G (fun q => s.heap.size ≤ q) s.heap H locs (wm ++ wc) → W p l e room_1 s m #[Value.ref z] below meth c H locs 65 1687 Q (F0 m 631 ls [])) (hl : lv_has ls 4 [(3, .int (nI i)), (2, .ref (b 0)), (1, .ref (a 0)), (0, .ref z)]) (hi : i + 4 ≤ L) (hI : Inv G a ar ac b wc wm) (hw : WS G (fun q => s.heap.size ≤ q) s.heap H locs (wm ++ wc)) : W p l e room_1 s m #[Value.ref z] below meth c H locs 65 1687 Q (F0 m 562 ls []) := by
  obtain ⟨hx, hb, -⟩ := id X
  have hbA : ¬ (fun q : Nat => s.heap.size ≤ q) z := Nat.not_le.mpr hbl
  refine lv_aload_n hx hb dL_law_562 rfl (lv_at hl 2 rfl) ?_
  refine lv_aload_n hx hb dL_law_563 rfl (lv_at hl 3 rfl) ?_
  refine lv_iload_n hx hb dL_law_564 rfl (lv_at hl 0 rfl) ?_
  refine lv_iconst (v := 1) hx hb dL_law_565 (by decide) ?_
  refine lv_iadd hx hb dL_law_566 ?_
  refine x_cvi (y := nI (i + 1)) (by exact nI_add i 1) ?_
  refine va_sld hx hb hX hbl hbA hw.2.2 (vp_in_nI (by omega) (by omega)) dL_law_567 ?_
  refine x_cvi (y := xs (i + 1)) (by rw [nI_clamp (by omega)]) ?_
  obtain ⟨PC, PM, hC, hM, hv, hk⟩ := o_image (l := l) (xs (i + 1)) hI
  obtain ⟨fs, he⟩ := inv_c hI
  refine xcVS (n := 1) (As := [.int (xs (i + 1))]) (rest := []) (X0 := wm) (wc := wc) X hw hC (C := RX7) gL_law_X7_image (q0 := wm.length) (ci := 4) (fs := fs) (by rw [List.getElem?_append_right (Nat.le_refl _), Nat.sub_self]; exact he) rfl rfl ⟨rfl, rfl⟩ (by decide +kernel) ⟨Nat.le_of_ble_eq_true rfl, Nat.le_of_ble_eq_true rfl⟩ rfl hl.1 rfl (Nat.le_of_ble_eq_true rfl) dL_law_568 ⟨Nat.le_of_ble_eq_true rfl, Nat.le_of_ble_eq_true rfl⟩ (fun r1 w1 H locs hp1 hw => ?_)
  obtain ⟨v, rfl⟩ := hv r1 w1 hp1
  refine W.eq (g2 := F0 m 571 ls [.int v]) rfl ?_
  have hw := ws_perm List.perm_append_comm hw
  obtain ⟨fs2, he2⟩ := inv_m hI
  refine lv_aload_n hx hb dL_law_571 rfl (lv_at hl 1 rfl) ?_
  refine lv_aload_n hx hb dL_law_572 rfl (lv_at hl 3 rfl) ?_
  refine lv_iload_n hx hb dL_law_573 rfl (lv_at hl 0 rfl) ?_
  refine lv_iconst (v := 1) hx hb dL_law_574 (by decide) ?_
  refine lv_iadd hx hb dL_law_575 ?_
  refine x_cvi (y := nI (i + 1)) (by exact nI_add i 1) ?_
  refine va_sld hx hb hX hbl hbA hw.2.2 (vp_in_nI (by omega) (by omega)) dL_law_576 ?_
  refine x_cvi (y := xs (i + 1)) (by rw [nI_clamp (by omega)]) ?_
  refine xcVS (n := 1) (As := [.int (xs (i + 1))]) (rest := [.int v]) (X0 := w1) (wc := wm) X hw hM (C := RX8) gL_law_X8_image (q0 := w1.length) (ci := 5) (fs := fs2) (by rw [List.getElem?_append_right (Nat.le_refl _), Nat.sub_self]; exact he2) rfl rfl ⟨rfl, rfl⟩ (by decide +kernel) ⟨Nat.le_of_ble_eq_true rfl, Nat.le_of_ble_eq_true rfl⟩ rfl hl.1 rfl (Nat.le_of_ble_eq_true rfl) dL_law_577 ⟨Nat.le_of_ble_eq_true rfl, Nat.le_of_ble_eq_true rfl⟩ (fun r2 w2 H locs hp2 hw => ?_)
  obtain ⟨v2, e1, e2, wc2, wm2, q1, q2, hI2⟩ := hk _ _ _ _ hp1 hp2
  cases e1
  subst e2
  refine W.eq (g2 := F0 m 580 ls [.int v, .int v]) rfl ?_
  refine lv_icmp_eq (tgt := 631) hx hb dL_law_580 (by decide) (fun h => ?_) (fun h => absurd rfl h)
  exact K _ _ _ _ hI2 (ws_perm (List.perm_append_comm.trans (q2.append q1)) hw)
set_option maxHeartbeats 4000000 in
set_option maxRecDepth 100000 in
theorem law_c17 {p : Program} {l : Launch} {e : Env} {s : State} {m : MethodId} {below : List Frame} {meth : Method} {c : Code} {G : GG} {nm : String} {z L i : Nat} {xs : Nat → Int32} {Q : State → Prop} {a ar ac b : Nat → Nat} {ls : Array Slot} {H : Heap} {locs : List Loc} {wc wm : va_W} (X : CX p s m meth c #[Value.ref z] G wsL_law RL cL_law 4 nm (fun q => s.heap.size ≤ q)) (hX : va_X z L xs s s.heap) (hbl : z < s.heap.size) (hL : L ≤ 2048) (K : ∀ (H : Heap) (locs : List Loc) (wc wm : va_W), Inv G a ar ac b wc wm → WS G (fun q => s.heap.size ≤ q) s.heap H locs (wm ++ wc) → W p l e room_1 s m #[Value.ref z] below meth c H locs 65 1687 Q (F0 m 631 ls [])) (hl : lv_has ls 4 [(3, .int (nI i)), (2, .ref (b 0)), (1, .ref (a 0)), (0, .ref z)]) (hi : i + 4 ≤ L) (hI : Inv G a ar ac b wc wm) (hw : WS G (fun q => s.heap.size ≤ q) s.heap H locs (wm ++ wc)) : W p l e room_1 s m #[Value.ref z] below meth c H locs 65 1687 Q (F0 m 585 ls []) := by
  obtain ⟨hx, hb, -⟩ := id X
  have hbA : ¬ (fun q : Nat => s.heap.size ≤ q) z := Nat.not_le.mpr hbl
  refine lv_aload_n hx hb dL_law_585 rfl (lv_at hl 2 rfl) ?_
  refine lv_aload_n hx hb dL_law_586 rfl (lv_at hl 3 rfl) ?_
  refine lv_iload_n hx hb dL_law_587 rfl (lv_at hl 0 rfl) ?_
  refine lv_iconst (v := 1) hx hb dL_law_588 (by decide) ?_
  refine lv_iadd hx hb dL_law_589 ?_
  refine x_cvi (y := nI (i + 1)) (by exact nI_add i 1) ?_
  refine va_sld hx hb hX hbl hbA hw.2.2 (vp_in_nI (by omega) (by omega)) dL_law_590 ?_
  refine x_cvi (y := xs (i + 1)) (by rw [nI_clamp (by omega)]) ?_
  obtain ⟨PC, PM, hC, hM, hv, hk⟩ := o_restore (l := l) (xs (i + 1)) hI
  obtain ⟨fs, he⟩ := inv_c hI
  refine xcVS (n := 1) (As := [.int (xs (i + 1))]) (rest := []) (X0 := wm) (wc := wc) X hw hC (C := RX7) gL_law_X7_restore (q0 := wm.length) (ci := 4) (fs := fs) (by rw [List.getElem?_append_right (Nat.le_refl _), Nat.sub_self]; exact he) rfl rfl ⟨rfl, rfl⟩ (by decide +kernel) ⟨Nat.le_of_ble_eq_true rfl, Nat.le_of_ble_eq_true rfl⟩ rfl hl.1 rfl (Nat.le_of_ble_eq_true rfl) dL_law_591 ⟨Nat.le_of_ble_eq_true rfl, Nat.le_of_ble_eq_true rfl⟩ (fun r1 w1 H locs hp1 hw => ?_)
  obtain ⟨v, rfl⟩ := hv r1 w1 hp1
  refine W.eq (g2 := F0 m 594 ls [.int v]) rfl ?_
  have hw := ws_perm List.perm_append_comm hw
  obtain ⟨fs2, he2⟩ := inv_m hI
  refine lv_aload_n hx hb dL_law_594 rfl (lv_at hl 1 rfl) ?_
  refine lv_aload_n hx hb dL_law_595 rfl (lv_at hl 3 rfl) ?_
  refine lv_iload_n hx hb dL_law_596 rfl (lv_at hl 0 rfl) ?_
  refine lv_iconst (v := 1) hx hb dL_law_597 (by decide) ?_
  refine lv_iadd hx hb dL_law_598 ?_
  refine x_cvi (y := nI (i + 1)) (by exact nI_add i 1) ?_
  refine va_sld hx hb hX hbl hbA hw.2.2 (vp_in_nI (by omega) (by omega)) dL_law_599 ?_
  refine x_cvi (y := xs (i + 1)) (by rw [nI_clamp (by omega)]) ?_
  refine xcVS (n := 1) (As := [.int (xs (i + 1))]) (rest := [.int v]) (X0 := w1) (wc := wm) X hw hM (C := RX8) gL_law_X8_restore (q0 := w1.length) (ci := 5) (fs := fs2) (by rw [List.getElem?_append_right (Nat.le_refl _), Nat.sub_self]; exact he2) rfl rfl ⟨rfl, rfl⟩ (by decide +kernel) ⟨Nat.le_of_ble_eq_true rfl, Nat.le_of_ble_eq_true rfl⟩ rfl hl.1 rfl (Nat.le_of_ble_eq_true rfl) dL_law_600 ⟨Nat.le_of_ble_eq_true rfl, Nat.le_of_ble_eq_true rfl⟩ (fun r2 w2 H locs hp2 hw => ?_)
  obtain ⟨v2, e1, e2, wc2, wm2, q1, q2, hI2⟩ := hk _ _ _ _ hp1 hp2
  cases e1
  subst e2
  refine W.eq (g2 := F0 m 603 ls [.int v, .int v]) rfl ?_
  refine lv_icmp_eq (tgt := 631) hx hb dL_law_603 (by decide) (fun h => ?_) (fun h => absurd rfl h)
  exact K _ _ _ _ hI2 (ws_perm (List.perm_append_comm.trans (q2.append q1)) hw)
set_option maxHeartbeats 4000000 in
set_option maxRecDepth 100000 in
theorem law_c18 {p : Program} {l : Launch} {e : Env} {s : State} {m : MethodId} {below : List Frame} {meth : Method} {c : Code} {G : GG} {nm : String} {z L i : Nat} {xs : Nat → Int32} {Q : State → Prop} {a ar ac b : Nat → Nat} {ls : Array Slot} {H : Heap} {locs : List Loc} {wc wm : va_W} (X : CX p s m meth c #[Value.ref z] G wsL_law RL cL_law 4 nm (fun q => s.heap.size ≤ q)) (hX : va_X z L xs s s.heap) (hbl : z < s.heap.size) (hL : L ≤ 2048) (K : ∀ (H : Heap) (locs : List Loc) (wc wm : va_W), Inv G a ar ac b wc wm → WS G (fun q => s.heap.size ≤ q) s.heap H locs (wm ++ wc) → W p l e room_1 s m #[Value.ref z] below meth c H locs 65 1687 Q (F0 m 631 ls [])) (hl : lv_has ls 4 [(3, .int (nI i)), (2, .ref (b 0)), (1, .ref (a 0)), (0, .ref z)]) (hi : i + 4 ≤ L) (hI : Inv G a ar ac b wc wm) (hw : WS G (fun q => s.heap.size ≤ q) s.heap H locs (wm ++ wc)) : W p l e room_1 s m #[Value.ref z] below meth c H locs 65 1687 Q (F0 m 608 ls []) := by
  obtain ⟨hx, hb, -⟩ := id X
  have hbA : ¬ (fun q : Nat => s.heap.size ≤ q) z := Nat.not_le.mpr hbl
  refine lv_aload_n hx hb dL_law_608 rfl (lv_at hl 2 rfl) ?_
  refine lv_aload_n hx hb dL_law_609 rfl (lv_at hl 3 rfl) ?_
  refine lv_iload_n hx hb dL_law_610 rfl (lv_at hl 0 rfl) ?_
  refine lv_iconst (v := 1) hx hb dL_law_611 (by decide) ?_
  refine lv_iadd hx hb dL_law_612 ?_
  refine x_cvi (y := nI (i + 1)) (by exact nI_add i 1) ?_
  refine va_sld hx hb hX hbl hbA hw.2.2 (vp_in_nI (by omega) (by omega)) dL_law_613 ?_
  refine x_cvi (y := xs (i + 1)) (by rw [nI_clamp (by omega)]) ?_
  obtain ⟨PC, PM, hC, hM, hv, hk⟩ := o_told (l := l) (xs (i + 1)) hI
  obtain ⟨fs, he⟩ := inv_c hI
  refine xcVS (n := 1) (As := [.int (xs (i + 1))]) (rest := []) (X0 := wm) (wc := wc) X hw hC (C := RX7) gL_law_X7_told (q0 := wm.length) (ci := 4) (fs := fs) (by rw [List.getElem?_append_right (Nat.le_refl _), Nat.sub_self]; exact he) rfl rfl ⟨rfl, rfl⟩ (by decide +kernel) ⟨Nat.le_of_ble_eq_true rfl, Nat.le_of_ble_eq_true rfl⟩ rfl hl.1 rfl (Nat.le_of_ble_eq_true rfl) dL_law_614 ⟨Nat.le_of_ble_eq_true rfl, Nat.le_of_ble_eq_true rfl⟩ (fun r1 w1 H locs hp1 hw => ?_)
  obtain ⟨v, rfl⟩ := hv r1 w1 hp1
  refine W.eq (g2 := F0 m 617 ls [.int v]) rfl ?_
  have hw := ws_perm List.perm_append_comm hw
  obtain ⟨fs2, he2⟩ := inv_m hI
  refine lv_aload_n hx hb dL_law_617 rfl (lv_at hl 1 rfl) ?_
  refine lv_aload_n hx hb dL_law_618 rfl (lv_at hl 3 rfl) ?_
  refine lv_iload_n hx hb dL_law_619 rfl (lv_at hl 0 rfl) ?_
  refine lv_iconst (v := 1) hx hb dL_law_620 (by decide) ?_
  refine lv_iadd hx hb dL_law_621 ?_
  refine x_cvi (y := nI (i + 1)) (by exact nI_add i 1) ?_
  refine va_sld hx hb hX hbl hbA hw.2.2 (vp_in_nI (by omega) (by omega)) dL_law_622 ?_
  refine x_cvi (y := xs (i + 1)) (by rw [nI_clamp (by omega)]) ?_
  refine xcVS (n := 1) (As := [.int (xs (i + 1))]) (rest := [.int v]) (X0 := w1) (wc := wm) X hw hM (C := RX8) gL_law_X8_told (q0 := w1.length) (ci := 5) (fs := fs2) (by rw [List.getElem?_append_right (Nat.le_refl _), Nat.sub_self]; exact he2) rfl rfl ⟨rfl, rfl⟩ (by decide +kernel) ⟨Nat.le_of_ble_eq_true rfl, Nat.le_of_ble_eq_true rfl⟩ rfl hl.1 rfl (Nat.le_of_ble_eq_true rfl) dL_law_623 ⟨Nat.le_of_ble_eq_true rfl, Nat.le_of_ble_eq_true rfl⟩ (fun r2 w2 H locs hp2 hw => ?_)
  obtain ⟨v2, e1, e2, wc2, wm2, q1, q2, hI2⟩ := hk _ _ _ _ hp1 hp2
  cases e1
  subst e2
  refine W.eq (g2 := F0 m 626 ls [.int v, .int v]) rfl ?_
  refine lv_icmp_eq (tgt := 631) hx hb dL_law_626 (by decide) (fun h => ?_) (fun h => absurd rfl h)
  exact K _ _ _ _ hI2 (ws_perm (List.perm_append_comm.trans (q2.append q1)) hw)
theorem tab_out19 (x : Int32) (h0 : ¬ x = 0) (h1 : ¬ x = 1) (h2 : ¬ x = 2) (h3 : ¬ x = 3) (h4 : ¬ x = 4) (h5 : ¬ x = 5) (h6 : ¬ x = 6) (h7 : ¬ x = 7) (h8 : ¬ x = 8) (h9 : ¬ x = 9) (h10 : ¬ x = 10) (h11 : ¬ x = 11) (h12 : ¬ x = 12) (h13 : ¬ x = 13) (h14 : ¬ x = 14) (h15 : ¬ x = 15) (h16 : ¬ x = 16) (h17 : ¬ x = 17) (h18 : ¬ x = 18) : x.toInt < 0 ∨ 18 < x.toInt := by
  rw [fa_eq] at h0 h1 h2 h3 h4 h5 h6 h7 h8 h9 h10 h11 h12 h13 h14 h15 h16 h17 h18
  have e0 : (0 : Int32).toInt = 0 := by decide
  have e1 : (1 : Int32).toInt = 1 := by decide
  have e2 : (2 : Int32).toInt = 2 := by decide
  have e3 : (3 : Int32).toInt = 3 := by decide
  have e4 : (4 : Int32).toInt = 4 := by decide
  have e5 : (5 : Int32).toInt = 5 := by decide
  have e6 : (6 : Int32).toInt = 6 := by decide
  have e7 : (7 : Int32).toInt = 7 := by decide
  have e8 : (8 : Int32).toInt = 8 := by decide
  have e9 : (9 : Int32).toInt = 9 := by decide
  have e10 : (10 : Int32).toInt = 10 := by decide
  have e11 : (11 : Int32).toInt = 11 := by decide
  have e12 : (12 : Int32).toInt = 12 := by decide
  have e13 : (13 : Int32).toInt = 13 := by decide
  have e14 : (14 : Int32).toInt = 14 := by decide
  have e15 : (15 : Int32).toInt = 15 := by decide
  have e16 : (16 : Int32).toInt = 16 := by decide
  have e17 : (17 : Int32).toInt = 17 := by decide
  have e18 : (18 : Int32).toInt = 18 := by decide
  omega
set_option maxHeartbeats 4000000 in
set_option maxRecDepth 100000 in
theorem law_loop {p : Program} {l : Launch} {e : Env} {s : State} {m : MethodId} {below : List Frame} {meth : Method} {c : Code} {G : GG} {nm : String} {z L : Nat} {xs : Nat → Int32} {a ar ac b : Nat → Nat} (X : CX p s m meth c #[Value.ref z] G wsL_law RL cL_law 4 nm (fun q => s.heap.size ≤ q)) (hX : va_X z L xs s s.heap) (hbl : z < s.heap.size) (hL : L ≤ 2048) (hr : meth.sig.returnType = ret) (hlocks : meth.locks = false) :
    ∀ (n i : Nat), i ≤ L → L + 1 ≤ i + n → ∀ (ls : Array Slot) (H : Heap) (locs : List Loc) (wc wm : va_W), lv_has ls 4 [(3, .int (nI i)), (2, .ref (b 0)), (1, .ref (a 0)), (0, .ref z)] → Inv G a ar ac b wc wm → WS G (fun q => s.heap.size ≤ q) s.heap H locs (wm ++ wc) → W p l e room_1 s m #[Value.ref z] below meth c H locs 65 1687 (lw_Z below #[Value.ref z] s) (F0 m 18 ls []) := by
  obtain ⟨hx, hb, -⟩ := id X
  have hbA : ¬ (fun q : Nat => s.heap.size ≤ q) z := Nat.not_le.mpr hbl
  intro n
  induction n with
  | zero =>
    intro i h1 h2
    exact absurd h2 (by omega)
  | succ n ih =>
    intro i hiL hin ls H locs wc wm hl hI hw
    refine lv_iload_n hx hb dL_law_18 rfl (lv_at hl 0 rfl) ?_
    refine lv_aload_n hx hb dL_law_19 rfl (lv_at hl 3 rfl) ?_
    refine va_slen hx hb hX hbl hbA hw.2.2 dL_law_20 ?_
    refine lv_iconst (v := 4) hx hb dL_law_21 (by decide) ?_
    refine lv_isub hx hb dL_law_22 ?_
    refine lv_icmp_gt (tgt := 637) hx hb dL_law_23 (by decide) (fun c23 => ?_) (fun c23 => ?_)
    · refine lv_iconst (v := 1) hx hb dL_law_637 (by decide) ?_
      refine va_forget (fun q hq => hw.2.2.2.2 q hq) ?_
      refine W.widen (k := 600000) (n := 7302250) (Nat.le_of_ble_eq_true rfl) (Nat.le_of_ble_eq_true rfl) ?_
      exact lw_ret hx hb hr hlocks dL_law_638
    · have hi : i + 4 ≤ L := by
        have h1 := pk_sub_toInt (a := L) (b := 4) (by omega) (by decide)
        have h2 : ¬ (nI L - nI 4).toInt < (nI i).toInt := fun q => c23 ((fa_lt _ _).mpr q)
        rw [h1, nI_toInt (by omega)] at h2
        omega
      have K : ∀ (H : Heap) (locs : List Loc) (wc wm : va_W), Inv G a ar ac b wc wm → WS G (fun q => s.heap.size ≤ q) s.heap H locs (wm ++ wc) → W p l e room_1 s m #[Value.ref z] below meth c H locs 65 1687 (lw_Z below #[Value.ref z] s) (F0 m 631 ls []) := by
        intro H locs wc wm hI hw
        refine lv_iinc (v := nI (i + 4)) (lv' := [(3, .int (nI (i + 4))), (2, .ref (b 0)), (1, .ref (a 0)), (0, .ref z)]) hx hb dL_law_631 hl (k := 0) rfl (by rw [show Int32.ofInt 4 = nI 4 by decide]; exact nI_add i 4) (by decide) rfl (fun ls hl => ?_)
        refine lv_goto (tgt := 18) hx hb dL_law_634 (by decide) ?_
        exact ih (i + 4) hi (by omega) ls H locs wc wm hl hI hw
      refine lv_aload_n hx hb dL_law_26 rfl (lv_at hl 3 rfl) ?_
      refine lv_iload_n hx hb dL_law_27 rfl (lv_at hl 0 rfl) ?_
      refine va_sld hx hb hX hbl hbA hw.2.2 (vp_in_nI (by omega) (by omega)) dL_law_28 ?_
      refine lv_bipush (v := 31) hx hb dL_law_29 (by decide) ?_
      refine lv_iand hx hb dL_law_31 ?_
      refine lv_topi (fun t et => ?_)
      by_cases h0 : t = 0
      · refine lv_tableIn (tgt := 124) hx hb dL_law_32 (by rw [h0]; decide) (by rw [h0]; decide) (off := 92) (by rw [h0]; rfl) (by decide) ?_
        exact law_c0 X hX hbl hL K hl hi hI hw
      by_cases h1 : t = 1
      · refine lv_tableIn (tgt := 147) hx hb dL_law_32 (by rw [h1]; decide) (by rw [h1]; decide) (off := 115) (by rw [h1]; rfl) (by decide) ?_
        exact law_c1 X hX hbl hL K hl hi hI hw
      by_cases h2 : t = 2
      · refine lv_tableIn (tgt := 170) hx hb dL_law_32 (by rw [h2]; decide) (by rw [h2]; decide) (off := 138) (by rw [h2]; rfl) (by decide) ?_
        exact law_c2 X hX hbl hL K hl hi hI hw
      by_cases h3 : t = 3
      · refine lv_tableIn (tgt := 183) hx hb dL_law_32 (by rw [h3]; decide) (by rw [h3]; decide) (off := 151) (by rw [h3]; rfl) (by decide) ?_
        exact law_c3 X hX hbl hL K hl hi hI hw
      by_cases h4 : t = 4
      · refine lv_tableIn (tgt := 206) hx hb dL_law_32 (by rw [h4]; decide) (by rw [h4]; decide) (off := 174) (by rw [h4]; rfl) (by decide) ?_
        exact law_c4 X hX hbl hL K hl hi hI hw
      by_cases h5 : t = 5
      · refine lv_tableIn (tgt := 229) hx hb dL_law_32 (by rw [h5]; decide) (by rw [h5]; decide) (off := 197) (by rw [h5]; rfl) (by decide) ?_
        exact law_c5 X hX hbl hL K hl hi hI hw
      by_cases h6 : t = 6
      · refine lv_tableIn (tgt := 252) hx hb dL_law_32 (by rw [h6]; decide) (by rw [h6]; decide) (off := 220) (by rw [h6]; rfl) (by decide) ?_
        exact law_c6 X hX hbl hL K hl hi hI hw
      by_cases h7 : t = 7
      · refine lv_tableIn (tgt := 285) hx hb dL_law_32 (by rw [h7]; decide) (by rw [h7]; decide) (off := 253) (by rw [h7]; rfl) (by decide) ?_
        exact law_c7 X hX hbl hL K hl hi hI hw
      by_cases h8 : t = 8
      · refine lv_tableIn (tgt := 318) hx hb dL_law_32 (by rw [h8]; decide) (by rw [h8]; decide) (off := 286) (by rw [h8]; rfl) (by decide) ?_
        exact law_c8 X hX hbl hL K hl hi hI hw
      by_cases h9 : t = 9
      · refine lv_tableIn (tgt := 361) hx hb dL_law_32 (by rw [h9]; decide) (by rw [h9]; decide) (off := 329) (by rw [h9]; rfl) (by decide) ?_
        exact law_c9 X hX hbl hL K hl hi hI hw
      by_cases h10 : t = 10
      · refine lv_tableIn (tgt := 394) hx hb dL_law_32 (by rw [h10]; decide) (by rw [h10]; decide) (off := 362) (by rw [h10]; rfl) (by decide) ?_
        exact law_c10 X hX hbl hL K hl hi hI hw
      by_cases h11 : t = 11
      · refine lv_tableIn (tgt := 427) hx hb dL_law_32 (by rw [h11]; decide) (by rw [h11]; decide) (off := 395) (by rw [h11]; rfl) (by decide) ?_
        exact law_c11 X hX hbl hL K hl hi hI hw
      by_cases h12 : t = 12
      · refine lv_tableIn (tgt := 460) hx hb dL_law_32 (by rw [h12]; decide) (by rw [h12]; decide) (off := 428) (by rw [h12]; rfl) (by decide) ?_
        exact law_c12 X hX hbl hL K hl hi hI hw
      by_cases h13 : t = 13
      · refine lv_tableIn (tgt := 503) hx hb dL_law_32 (by rw [h13]; decide) (by rw [h13]; decide) (off := 471) (by rw [h13]; rfl) (by decide) ?_
        exact law_c13 X hX hbl hL K hl hi hI hw
      by_cases h14 : t = 14
      · refine lv_tableIn (tgt := 526) hx hb dL_law_32 (by rw [h14]; decide) (by rw [h14]; decide) (off := 494) (by rw [h14]; rfl) (by decide) ?_
        exact law_c14 X hX hbl hL K hl hi hI hw
      by_cases h15 : t = 15
      · refine lv_tableIn (tgt := 549) hx hb dL_law_32 (by rw [h15]; decide) (by rw [h15]; decide) (off := 517) (by rw [h15]; rfl) (by decide) ?_
        exact law_c15 X hX hbl hL K hl hi hI hw
      by_cases h16 : t = 16
      · refine lv_tableIn (tgt := 562) hx hb dL_law_32 (by rw [h16]; decide) (by rw [h16]; decide) (off := 530) (by rw [h16]; rfl) (by decide) ?_
        exact law_c16 X hX hbl hL K hl hi hI hw
      by_cases h17 : t = 17
      · refine lv_tableIn (tgt := 585) hx hb dL_law_32 (by rw [h17]; decide) (by rw [h17]; decide) (off := 553) (by rw [h17]; rfl) (by decide) ?_
        exact law_c17 X hX hbl hL K hl hi hI hw
      by_cases h18 : t = 18
      · refine lv_tableIn (tgt := 608) hx hb dL_law_32 (by rw [h18]; decide) (by rw [h18]; decide) (off := 576) (by rw [h18]; rfl) (by decide) ?_
        exact law_c18 X hX hbl hL K hl hi hI hw
      refine lv_tableOut (tgt := 631) hx hb dL_law_32 (tab_out19 t h0 h1 h2 h3 h4 h5 h6 h7 h8 h9 h10 h11 h12 h13 h14 h15 h16 h17 h18) (by decide) ?_
      exact K H locs wc wm hI hw
theorem nwW_on : ∀ w ∈ nwW, w.onTables = true := List.all_eq_true.mp (by decide +kernel)
set_option maxHeartbeats 4000000 in
set_option maxRecDepth 100000 in
theorem ku_of {s : State} {args : Array Value} (hts : ∀ w ∈ lw_tbl, w.before args s = true) : ∃ G : GG, KU G s := by
  obtain ⟨c0, i0, h0⟩ := u_known (C := RX1) (T := TX1) (N := 3) (n := 3) hts inX1 (hts _ (wsL_law_in _ (by decide +kernel : Cond.instantiable RX1 3 ∈ wsL_law)))
  obtain ⟨c1, i1, h1⟩ := u_known (C := RX2) (T := TX2) (N := 5) (n := 5) hts inX2 (hts _ (wsL_law_in _ (by decide +kernel : Cond.instantiable RX2 5 ∈ wsL_law)))
  obtain ⟨c2, i2, h2⟩ := u_known (C := RX4) (T := TX4) (N := 4) (n := 4) hts inX4 (hts _ (wsL_law_in _ (by decide +kernel : Cond.instantiable RX4 4 ∈ wsL_law)))
  obtain ⟨c3, i3, h3⟩ := u_known (C := RX6) (T := TX6) (N := 4) (n := 4) hts inX6 (hts _ (wsL_law_in _ (by decide +kernel : Cond.instantiable RX6 4 ∈ wsL_law)))
  obtain ⟨c4, i4, h4⟩ := u_known (C := RX7) (T := TX7) (N := 9) (n := 9) hts inX7 (hts _ (wsL_law_in _ (by decide +kernel : Cond.instantiable RX7 9 ∈ wsL_law)))
  obtain ⟨c5, i5, h5⟩ := u_known (C := RX8) (T := TX8) (N := 27) (n := 27) hts inX8 (hts _ (wsL_law_in _ (by decide +kernel : Cond.instantiable RX8 27 ∈ wsL_law)))
  obtain ⟨dI, kI, pI, a1, a2, a3⟩ := Cond.arrayClass_spec (hts _ (ku_w _ List.mem_cons_self))
  obtain ⟨dZ, kZ, pZ, b1, b2, b3⟩ := Cond.arrayClass_spec (hts _ (ku_w _ (List.mem_cons_of_mem _ List.mem_cons_self)))
  have hao := hts _ (ku_w _ (List.mem_cons_of_mem _ (List.mem_cons_of_mem _ List.mem_cons_self)))
  obtain ⟨comp, dF, kF, f1, f2, f3, f4, f5⟩ := Cond.arrayOver_spec hao
  refine ⟨((fun k => if k = 0 then c0 else if k = 1 then c1 else if k = 2 then c2 else if k = 3 then c3 else if k = 4 then c4 else c5, fun k => if k = 0 then i0 else if k = 1 then i1 else if k = 2 then i2 else if k = 3 then i3 else if k = 4 then i4 else i5), dI, dZ, dF), ⟨fun k q hq => ?_, fun k q hq => ?_⟩, fun w hw => va_Nw.of (nwW_on w hw) (hts w (ku_w w (List.mem_cons_of_mem _ (List.mem_cons_of_mem _ (List.mem_cons_of_mem _ hw))))), va_AO.of hao⟩
  · match k, hq with
    | 0, hq => cases hq; exact h0
    | 1, hq => cases hq; exact h1
    | 2, hq => cases hq; exact h2
    | 3, hq => cases hq; exact h3
    | 4, hq => cases hq; exact h4
    | 5, hq => cases hq; exact h5
    | k + 6, hq => simp [vwCl] at hq
  · match k, hq with
    | 0, hq => cases hq; exact ⟨fun n y => ⟨fun k h => (by cases h), kI, a2, pI, a3⟩, a1⟩
    | 1, hq => cases hq; exact ⟨fun n y => ⟨fun k h => (by cases h), kZ, b2, pZ, b3⟩, b1⟩
    | 2, hq => cases hq; exact ⟨fun n y => ⟨fun k h => (by cases h), kF, f3, comp, f4⟩, kF, comp, f3, f4, f1, f5⟩
    | k + 3, hq => simp [gT] at hq
/-- invokespecial of a constructor: a callee whose world is the world's end -/
theorem xcIS {p : Program} {l : Launch} {e : Env} {R : Room} {s : State} {m : MethodId} {args : Array Value} {below : List Frame} {meth : Method} {c : Code} {H : Heap} {locs : List Loc} {cells slots : Nat} {Q : State → Prop} {cc : ByteArray} {pc : Nat} {ls : Array Slot} {rest : List Value} {G : GG} {A : Nat → Prop} {Ts : List Cond} {own : String} {nL : Nat} {nm : String} {y : MethodName} {wsy wsy' : List Cond} {rm : Room} {As : List Value} {wc : va_W} {Post : Option Value → va_W → Prop} {mc ms maxL index n : Nat} {bytes : ByteArray} {st : List Value}
    (X : CX p s m meth c args G Ts own cc nL nm A) {X0 : va_W} (hw : WS G A s.heap H locs (X0 ++ wc)) {b : Nat} (hC : CT l G y wsy rm (.ref b :: As) wc Post mc ms) (hG : GoodIn Ts wsy) (hini : Cond.initialized y.cls ∈ Ts) (hlk : Cond.methodLink own index y ∈ Ts) (hins : Cond.instanceMethod y ∈ Ts) (hy1 : y.name = "<init>") (hcode : wsy = Cond.code y bytes maxL none :: wsy') (hrm : rm.cells = mc ∧ rm.slots = ms) (hd : y.cls ≠ "java/lang/invoke/MethodHandle" ∧ y.cls ≠ "java/lang/invoke/VarHandle" ∧ (parseMethodDescriptor y.desc).map (fun d => d.parameters.length) = some n) (hR : rm.frames + 1 ≤ R.frames ∧ 8 + (maxL + 11) + rm.locals ≤ R.locals) (hn : As.length = n) (hl : ls.size = nL) (hst : st = As.reverse ++ .ref b :: rest) (hcat : (rest.map fun v => v.category).sum ≤ 8) (hdg : decode cc pc = .ok (.invokespecial index, 3)) (hf : cells + mc ≤ R.cells ∧ slots + ms ≤ R.slots)
    (kk : ∀ (r : Option Value) (w1 : va_W) (H1 : Heap) (locs1 : List Loc), Post r w1 → WS G A s.heap H1 locs1 (X0 ++ w1) → W p l e R s m args below meth c H1 locs1 (cells + mc) (slots + ms) Q (F0 m (pc + 3) ls (r.toList ++ rest))) : W p l e R s m args below meth c H locs cells slots Q (F0 m pc ls st) := xcI X hw hC hG hini hlk hins hy1 hcode hrm hd hR hn hl hst hcat hdg hf _ _ (ix_suf X0 wc) (ix_pre X0 wc) (nd_suf _ _) (nd_of _ List.nodup_range) (dis_suf _ _) kk
theorem dR_0 : dR 0 (fa_fill (stE 0) (fun _ => 0) 61) (fun _ => 0) := by
  refine ⟨by decide, by decide, fun j hj => ?_, fun j hj h => ?_⟩
  · rw [fa_fill_in (by omega)]
    rfl
  · rw [Nat.zero_testBit] at h
    cases h
theorem sb_0 (kd : Nat) : sbF kd 0 = fun _ => 0 := funext fun i => by unfold sbF; rw [fsOf_un (Nat.zero_testBit i)]; rfl
theorem sn_z (kd : Nat) : snF kd 0 = fun _ => 0 := funext fun i => by unfold snF; rw [fsOf_un (Nat.zero_testBit i)]; rfl
theorem st_z (kd : Nat) : stF kd 0 = fun _ => 0 := funext fun i => by unfold stF; rw [fsOf_un (Nat.zero_testBit i)]; rfl
theorem tB_z : tB 0 = fun _ => 0 := funext fun i => by unfold tB; rw [Nat.zero_testBit]; rfl
theorem tt_z (kd N : Nat) : ttOf kd 0 N = 0 := by
  unfold ttOf
  rw [fb_sm_cong (g := fun _ => 0) (fun i _ => by rw [fsOf_un (Nat.zero_testBit i)]), fb_sm_const, Nat.mul_zero]
theorem pc32_z : pcN 32 0 = 0 := by decide
theorem KR_0 (kd : Nat) (rk : Nat → Int32) : KR kd 0 rk := fun n _ h => by
  rw [Nat.zero_testBit] at h
  cases h
theorem iR_0 {m o : Nat} {er sk kp : Nat → Int32} {v : Int32} (h : v = 0) : iR false m er sk kp o v := ⟨fun z => (by cases z), fun _ => h⟩
theorem mW_0 {G : GG} {mo th ea sa lk lq lz rb rn rt rk cb cm cu ck mk nt kp iq : Nat} : [(mo, .inr (5, [.ref th, .ref ea, .ref sa, .ref lk, .ref lq, .ref lz, .int (nI 0), .int (nI 0), .int (nI 0), .ref rb, .ref rn, .ref rt, .ref rk, .int (nI 0), .ref cb, .ref cm, .ref cu, .ref ck, .int (nI 0), .int (nI 0), .int (nI 0), .ref mk, .ref nt, .ref kp, .ref iq, .int (nI 0), .int 0])), (th, .inl (G.2.1, 61, .inl (fun _ => 0))), (ea, .inl (G.2.1, 61, .inl (fun _ => 0))), (sa, .inl (G.2.1, 61, .inl (fun _ => 0))), (lk, .inl (G.2.1, 16, .inl (fun _ => 0))), (lq, .inl (G.2.1, 16, .inl (fun _ => 0))), (lz, .inl (G.2.1, 16, .inl (fun _ => 0))), (rb, .inl (G.2.1, 8, .inl (fun _ => 0))), (rn, .inl (G.2.1, 8, .inl (fun _ => 0))), (rt, .inl (G.2.1, 8, .inl (fun _ => 0))), (rk, .inl (G.2.1, 96, .inl (fun _ => 0))), (cb, .inl (G.2.1, 21, .inl (fun _ => 0))), (cm, .inl (G.2.1, 21, .inl (fun _ => 0))), (cu, .inl (G.2.1, 21, .inl (fun _ => 0))), (ck, .inl (G.2.1, 252, .inl (fun _ => 0))), (mk, .inl (G.2.1, 12, .inl (fun _ => 0))), (nt, .inl (G.2.1, 12, .inl (fun _ => 0))), (kp, .inl (G.2.1, 366, .inl (fun _ => 0))), (iq, .inl (G.2.2.1, 2, .inl (fun _ => 0)))] = mW G (fun j => [mo, th, ea, sa, lk, lq, lz, rb, rn, rt, rk, cb, cm, cu, ck, mk, nt, kp, iq].getD j 0) 0 (fun _ => 0) (fun _ => 0) (fun _ => 0) (fun _ => 0) (fun _ => 0) ([] : List (Nat × Int32)).length (nI 0) (nI 0) 0 0 (fun _ => 0) (fun _ => 0) (fun _ => 0) (fun _ => 0) (fun _ => 0) (fun _ => 0) (nI 0) 0 := by
  unfold mW
  rw [sb_0, sb_0, sn_z, sn_z, st_z, st_z, tB_z, tt_z, tt_z, pc32_z]
  rfl
set_option maxHeartbeats 4000000 in
set_option maxRecDepth 100000 in
theorem whole_start {p : Program} {e : Env} {s : State} {m : MethodId} {below : List Frame} {meth : Method} {c : Code} (l : Launch) (hflags : l.flags = flags0) {b L : Nat} {xs : Nat → Int32} (hL : L ≤ 2048) (C0 : lw_At p s m meth c b L xs) : W p l e room_1 s m #[Value.ref b] below meth c s.heap [] 0 0 (lw_Z below #[Value.ref b] s) (entryFrame m ([Value.ref b] : List Value).toArray 4) := by
  obtain ⟨hx, hb, hr, hml, hown, hts, hX, hbl, hlocks, hgv⟩ := id C0
  obtain ⟨G, hK⟩ := ku_of hts
  have X : CX p s m meth c #[Value.ref b] G wsL_law RL cL_law 4 meth.name (fun q => s.heap.size ≤ q) := ⟨hx, hb, hml, hown, fun w h => hts w (wsL_law_in w h), hK, fun q h => h, rfl⟩
  have hw : WS G (fun q => s.heap.size ≤ q) s.heap s.heap [] [] := ⟨fun k q h => by simp at h, ⟨fun i j p q h => by simp at h, fun k q h => by simp at h⟩, va_S.rf⟩
  have hl := lv_entry ([.ref b]) (n := 4) (Nat.le_of_ble_eq_true rfl)
  rw [lg_entry_eq]
  generalize (lg_sl ([.ref b]) ++ List.replicate (4 - (lg_sl ([.ref b])).length) Slot.unset).toArray = ls at hl ⊢
  have hl : lv_has ls 4 [(0, .ref b)] := hl
  refine xnew X hw (C := RX7) (T := TX7) (N := 9) (ci := 4) inlX7 tyX7 tyX7_ok (by decide +kernel) (by decide +kernel) (by decide +kernel) rfl (fs := [.null, .null, .null, .null, .null, .null, .int (nI 0), .int (nI 0), .int (nI 0)]) (fun j hj => by rcases (show j = 0 ∨ j = 1 ∨ j = 2 ∨ j = 3 ∨ j = 4 ∨ j = 5 ∨ j = 6 ∨ j = 7 ∨ j = 8 by omega) with rfl | rfl | rfl | rfl | rfl | rfl | rfl | rfl | rfl <;> rfl) ⟨Nat.le_of_ble_eq_true rfl, Nat.le_of_ble_eq_true rfl⟩ dL_law_0 (fun xo H hw => ?_)
  refine lv_dup hx hb dL_law_3 rfl ?_
  refine xcIS (n := 0) (As := []) (rest := [.ref xo]) (X0 := []) (wc := [(xo, .inr (4, [.null, .null, .null, .null, .null, .null, .int (nI 0), .int (nI 0), .int (nI 0)]))]) X hw (c_X7_init l G xo) gL_law_X7_init (by decide +kernel) (by decide +kernel) (by decide +kernel) rfl rfl ⟨rfl, rfl⟩ (by decide +kernel) ⟨Nat.le_of_ble_eq_true rfl, Nat.le_of_ble_eq_true rfl⟩ rfl hl.1 rfl (Nat.le_of_ble_eq_true rfl) dL_law_4 ⟨Nat.le_of_ble_eq_true rfl, Nat.le_of_ble_eq_true rfl⟩ (fun r w1 H locs hp hw => ?_)
  obtain ⟨rfl, d, e0, k0, i1, f1, h1, i2, f2, h2, g, s0, b0, ru, r1, co, r2, ar, ac, hw1⟩ := hp
  have hcw : w1 = cW G (fun j => [xo, d, e0, k0, i1, f1, h1, i2, f2, h2, g, s0, b0, ru, r1, co, r2].getD j 0) ar ac 0 (fa_fill (stE 0) (fun _ => 0) 61) (fun _ => 0) 0 (fa_fill (stE 0) (fun _ => 0) 61) (fun _ => 0) 0 (fa_fill (stE 0) (fun _ => 0) 61) (fun _ => 0) (fun _ => 0) (fun _ => 0) 0 ([] : List (Nat × Int32)).length (nI 0) (nI 0) (nI 0) 0 0 := hw1
  clear hw1
  refine W.eq (g2 := F0 m 7 ls [.ref xo]) rfl ?_
  refine lv_astore_n (lv' := [(1, .ref xo), (0, .ref b)]) hx hb dL_law_7 rfl hl (by decide) rfl (fun ls hl => ?_)
  refine xnew X hw (C := RX8) (T := TX8) (N := 27) (ci := 5) inlX8 tyX8 tyX8_ok (by decide +kernel) (by decide +kernel) (by decide +kernel) rfl (fs := [.null, .null, .null, .null, .null, .null, .int (nI 0), .int (nI 0), .int (nI 0), .null, .null, .null, .null, .int (nI 0), .null, .null, .null, .null, .int (nI 0), .int (nI 0), .int (nI 0), .null, .null, .null, .null, .int (nI 0), .int 0]) (fun j hj => by rcases (show j = 0 ∨ j = 1 ∨ j = 2 ∨ j = 3 ∨ j = 4 ∨ j = 5 ∨ j = 6 ∨ j = 7 ∨ j = 8 ∨ j = 9 ∨ j = 10 ∨ j = 11 ∨ j = 12 ∨ j = 13 ∨ j = 14 ∨ j = 15 ∨ j = 16 ∨ j = 17 ∨ j = 18 ∨ j = 19 ∨ j = 20 ∨ j = 21 ∨ j = 22 ∨ j = 23 ∨ j = 24 ∨ j = 25 ∨ j = 26 by omega) with rfl | rfl | rfl | rfl | rfl | rfl | rfl | rfl | rfl | rfl | rfl | rfl | rfl | rfl | rfl | rfl | rfl | rfl | rfl | rfl | rfl | rfl | rfl | rfl | rfl | rfl | rfl <;> rfl) ⟨Nat.le_of_ble_eq_true rfl, Nat.le_of_ble_eq_true rfl⟩ dL_law_8 (fun mo H hw => ?_)
  refine lv_dup hx hb dL_law_11 rfl ?_
  refine xcIS (n := 0) (As := []) (rest := [.ref mo]) (X0 := [] ++ w1) (wc := [(mo, .inr (5, [.null, .null, .null, .null, .null, .null, .int (nI 0), .int (nI 0), .int (nI 0), .null, .null, .null, .null, .int (nI 0), .null, .null, .null, .null, .int (nI 0), .int (nI 0), .int (nI 0), .null, .null, .null, .null, .int (nI 0), .int 0]))]) X hw (c_X8_init l G mo) gL_law_X8_init (by decide +kernel) (by decide +kernel) (by decide +kernel) rfl rfl ⟨rfl, rfl⟩ (by decide +kernel) ⟨Nat.le_of_ble_eq_true rfl, Nat.le_of_ble_eq_true rfl⟩ rfl hl.1 rfl (Nat.le_of_ble_eq_true rfl) dL_law_12 ⟨Nat.le_of_ble_eq_true rfl, Nat.le_of_ble_eq_true rfl⟩ (fun r w2 H locs hp hw => ?_)
  obtain ⟨rfl, th, ea, sa, lk, lq, lz, rb, rn, rt, rk, cb, cm, cu, ck, mk, nt, kp, iq, hw2⟩ := hp
  rw [mW_0] at hw2
  refine W.eq (g2 := F0 m 15 ls [.ref mo]) rfl ?_
  refine lv_astore_n (lv' := [(2, .ref mo), (1, .ref xo), (0, .ref b)]) hx hb dL_law_15 rfl hl (by decide) rfl (fun ls hl => ?_)
  refine lv_iconst (v := 0) hx hb dL_law_16 (by decide) ?_
  refine lv_istore_n (lv' := [(3, .int (nI 0)), (2, .ref mo), (1, .ref xo), (0, .ref b)]) hx hb dL_law_17 rfl hl (by decide) rfl (fun ls hl => ?_)
  have hI : Inv G (fun j => [xo, d, e0, k0, i1, f1, h1, i2, f2, h2, g, s0, b0, ru, r1, co, r2].getD j 0) ar ac (fun j => [mo, th, ea, sa, lk, lq, lz, rb, rn, rt, rk, cb, cm, cu, ck, mk, nt, kp, iq].getD j 0) w1 w2 := ⟨0, _, fun _ => 0, fun _ => 0, fun _ => 0, [], fun _ => 0, fun _ => 0, 0, fun _ => 0, fun _ => 0, fun _ => 0, 0, 0, _, fun _ => 0, 0, _, fun _ => 0, fun _ => 0, fun _ => 0, nI 0, nI 0, 0, 0, fun _ => 0, fun _ => 0, fun _ => 0, fun _ => 0, nI 0, 0, hcw, hw2, dR_0, fun _ _ => rfl, gR_0 (by decide), by decide, iR_0 rfl, iR_0 rfl, by decide, by decide, KR_0 _ _, KR_0 _ _⟩
  exact law_loop (a := (fun j => [xo, d, e0, k0, i1, f1, h1, i2, f2, h2, g, s0, b0, ru, r1, co, r2].getD j 0)) (b := (fun j => [mo, th, ea, sa, lk, lq, lz, rb, rn, rt, rk, cb, cm, cu, ck, mk, nt, kp, iq].getD j 0)) X hX hbl hL hr hlocks (L + 1) 0 (Nat.zero_le L) (by omega) ls H locs w1 w2 hl hI (ws_perm List.perm_append_comm hw)
