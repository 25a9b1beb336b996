/-! The law: lifts, twelve in a row, and all undone. -/
set_option maxHeartbeats 4000000 in
set_option maxRecDepth 100000 in
theorem law_b16 {p : Program} {l : Launch} {e : Env} {s : State} {mt : MethodId} {z : Nat} {below : List Frame} {meth : Method} {c : Code} {G : GG} {nm : String} {Q : State → Prop} {a ar ac : Nat → Nat} {L : Nat} {xs : Nat → Int32} {m0 : Nat} {eF sk : Nat → Int32} {im : Nat × (Nat → Int32) × (Nat → Int32) × Int32} {un tp kr kc n0 at0 : Nat} {D0 : Nat → Nat} {v3 : Int32} (X : CX p s mt meth c #[Value.ref z] G wsL_law RL cL_law 16 nm (fun q => s.heap.size ≤ q)) (hX : va_X z L xs s s.heap) (hbl : z < s.heap.size) (hLe : L ≤ 260) (hK : MK m0 n0 D0) (hn8 : n0 ≤ 8) (K : ∀ (H : Heap) (locs : List Loc) (ls : Array Slot), StD s G a ar ac (hM (sS D0 n0 at0) (vS n0) m0 n0, hE (sS D0 n0 at0) (vS n0) eF n0, sk, hL (sS D0 n0 at0) (vS n0) eF n0 n0, im, un, tp, kr, kc) H locs → lv_has ls 16 [(12, .int (nI n0)), (7, .int (nI n0)), (3, .int v3), (1, .ref (a 0)), (0, .ref z)] → W p l e room_1 s mt #[Value.ref z] below meth c H locs 46 602 Q (F0 mt 1388 ls [])) : ∀ (r i : Nat), i + r = n0 → ∀ (H : Heap) (locs : List Loc) (ls : Array Slot), StD s G a ar ac (hM (sS D0 n0 at0) (vS n0) m0 i, hE (sS D0 n0 at0) (vS n0) eF i, sk, hL (sS D0 n0 at0) (vS n0) eF i i, im, un, tp, kr, kc) H locs → lv_has ls 16 [(12, .int (nI i)), (7, .int (nI n0)), (3, .int v3), (1, .ref (a 0)), (0, .ref z)] → W p l e room_1 s mt #[Value.ref z] below meth c H locs 46 602 Q (F0 mt 1354 ls []) := by
  obtain ⟨hx, hb, -⟩ := id X
  intro r
  induction r with
  | zero =>
    intro i e0 H locs ls hS hl
    have e1 : i = n0 := by omega
    revert hS hl
    rw [e1]
    intro hS hl
    refine lv_iload hx hb dL_law_1354 (lv_at hl 0 rfl) ?_
    refine lv_iload hx hb dL_law_1356 (lv_at hl 1 rfl) ?_
    refine lv_icmp_ge (tgt := 1388) hx hb dL_law_1358 (by decide) (fun _ => ?_) (fun h => absurd (i_nle (by omega) (by omega) h) (by omega))
    exact K _ _ _ hS (lv_sub hl [0, 1, 2, 3, 4] rfl)
  | succ r ih =>
    intro i e0 H locs ls hS hl
    have hi : i < n0 := by omega
    have hmk := hM_MK (S := sS D0 n0 at0) (v := vS n0) hK sS_1 vS_1 i (n0 - i) (by omega)
    have hi0 : 0 < n0 - i := by omega
    have hkb : (hM (sS D0 n0 at0) (vS n0) m0 i).testBit (sS D0 n0 at0 i) = true := by
      have q : (hM (sS D0 n0 at0) (vS n0) m0 i).testBit (D0 (0 + i)) = true := hmk.tb hi0
      rw [Nat.zero_add] at q
      rw [sS_1 i hi]
      exact q
    have hq2 : hM (sS D0 n0 at0) (vS n0) m0 (i + 1) = bcm (hM (sS D0 n0 at0) (vS n0) m0 i) (sS D0 n0 at0 i) (-6) := by
      show bcm _ _ (vS n0 i) = _
      rw [vS_1 i hi]
    have hq3 : hE (sS D0 n0 at0) (vS n0) eF (i + 1) = upd (hE (sS D0 n0 at0) (vS n0) eF i) (sS D0 n0 at0 i) (-6) := by
      show upd _ _ (vS n0 i) = _
      rw [vS_1 i hi]
    refine lv_iload hx hb dL_law_1354 (lv_at hl 0 rfl) ?_
    refine lv_iload hx hb dL_law_1356 (lv_at hl 1 rfl) ?_
    refine lv_icmp_ge (tgt := 1388) hx hb dL_law_1358 (by decide) (fun h => absurd (i_le (by omega) (by omega) h) (by omega)) (fun _ => ?_)
    refine lv_aload_n hx hb dL_law_1361 rfl (lv_at hl 3 rfl) ?_
    refine lv_aload_n hx hb dL_law_1362 rfl (lv_at hl 3 rfl) ?_
    refine lv_iconst (v := nI 0) hx hb dL_law_1363 (by decide) ?_
    refine r_station  (nI 0)  X hS hl.1 (Nat.le_of_ble_eq_true rfl) dL_law_1364 (fun H locs hS => ?_)
    refine x_cvi (y := nI (sS D0 n0 at0 i)) (by have q : mkA (hM (sS D0 n0 at0) (vS n0) m0 i) (nI 0) = nI (D0 (0 + i)) := hmk.at hi0; rw [q, Nat.zero_add, sS_1 i hi]) ?_
    refine r_lift  (sS D0 n0 at0 i) (by rw [sS_1 i hi]; exact hK.le hi) (hkb) X hS hl.1 (Nat.le_of_ble_eq_true rfl) dL_law_1367 (fun H locs hS => ?_)
    have hS : StD s G a ar ac (hM (sS D0 n0 at0) (vS n0) m0 (i + 1), hE (sS D0 n0 at0) (vS n0) eF (i + 1), sk, hL (sS D0 n0 at0) (vS n0) eF (i + 1) (i + 1), im, un, tp, kr, kc) H locs := by
      rw [hq2, hq3, ← hL_new (S := sS D0 n0 at0) (v := vS n0) (e0 := eF) (c := i) (k := i) (by omega)]
      exact hS
    refine x_cvi (y := nI (n0 - 1 - i)) (congrArg nI (by rw [← hq2]; exact (hM_MK hK sS_1 vS_1 (i + 1) (n0 - 1 - i) (by omega)).2.1)) ?_
    refine lv_iload hx hb dL_law_1370 (lv_at hl 1 rfl) ?_
    refine lv_iconst (v := nI 1) hx hb dL_law_1372 (by decide) ?_
    refine lv_isub hx hb dL_law_1373 ?_
    refine x_cvi (y := nI (n0 - 1)) (pk_sub (by omega)) ?_
    refine lv_iload hx hb dL_law_1374 (lv_at hl 0 rfl) ?_
    refine lv_isub hx hb dL_law_1376 ?_
    refine x_cvi (y := nI ((n0 - 1) - i)) (pk_sub (by omega)) ?_
    refine lv_icmp_eq (tgt := 1382) hx hb dL_law_1377 (by decide) (fun _ => ?_) (fun h => absurd rfl h)
    refine lv_iinc (v := nI (i + 1)) (lv' := [(12, .int (nI (i + 1))), (7, .int (nI n0)), (3, .int v3), (1, .ref (a 0)), (0, .ref z)]) hx hb dL_law_1382 hl (k := 0) rfl (by exact nI_1 _) (by decide) rfl (fun ls hl => ?_)
    refine lv_goto (tgt := 1354) hx hb dL_law_1385 (by decide) ?_
    exact ih (i + 1) (by omega) _ _ _ hS (lv_sub hl [0, 1, 2, 3, 4] rfl)
set_option maxHeartbeats 4000000 in
set_option maxRecDepth 100000 in
theorem law_b17 {p : Program} {l : Launch} {e : Env} {s : State} {mt : MethodId} {z : Nat} {below : List Frame} {meth : Method} {c : Code} {G : GG} {nm : String} {Q : State → Prop} {a ar ac : Nat → Nat} {L : Nat} {xs : Nat → Int32} {m : Nat} {er sk : Nat → Int32} {lg : List (Nat × Int32)} {im : Nat × (Nat → Int32) × (Nat → Int32) × Int32} {un tp kr kc n0 at0 lg0 : Nat} {v3 : Int32} (X : CX p s mt meth c #[Value.ref z] G wsL_law RL cL_law 16 nm (fun q => s.heap.size ≤ q)) (hX : va_X z L xs s s.heap) (hbl : z < s.heap.size) (hLe : L ≤ 260) (hat : cN L xs 70 49 = at0) (hn8 : n0 ≤ 8) (hlg0 : (n0 ≤ 3 ∧ lg0 = 15) ∨ (3 < n0 ∧ lg0 = 16)) (K : ∀ (H : Heap) (locs : List Loc) (ls : Array Slot), StD s G a ar ac (m, er, sk, lg, im, un, tp, kr, kc) H locs → lv_has ls 16 [(14, .int (nI 0)), (13, .int (nI lg0)), (12, .int (nI at0)), (7, .int (nI n0)), (3, .int v3), (1, .ref (a 0)), (0, .ref z)] → W p l e room_1 s mt #[Value.ref z] below meth c H locs 46 602 Q (F0 mt 1416 ls [])) {H : Heap} {locs : List Loc} {ls : Array Slot} (hS : StD s G a ar ac (m, er, sk, lg, im, un, tp, kr, kc) H locs) (hl : lv_has ls 16 [(7, .int (nI n0)), (3, .int v3), (1, .ref (a 0)), (0, .ref z)]) : W p l e room_1 s mt #[Value.ref z] below meth c H locs 46 602 Q (F0 mt 1388 ls []) := by
  obtain ⟨hx, hb, -⟩ := id X
  refine lv_aload_n hx hb dL_law_1388 rfl (lv_at hl 3 rfl) ?_
  refine lv_bipush (v := nI 70) hx hb dL_law_1389 (by decide) ?_
  refine lv_bipush (v := nI 49) hx hb dL_law_1391 (by decide) ?_
  refine r_cell 70 49 (by omega) (by omega) (by omega) X hX hbl hLe hS hl.1 (Nat.le_of_ble_eq_true rfl) dL_law_1393 (fun H locs hS => ?_)
  refine x_cvi (y := nI at0) (congrArg nI hat) ?_
  refine lv_istore (lv' := [(12, .int (nI at0)), (7, .int (nI n0)), (3, .int v3), (1, .ref (a 0)), (0, .ref z)]) hx hb dL_law_1396 hl (by decide) rfl (fun ls hl => ?_)
  have kJ1 : (∀ (H : Heap) (locs : List Loc), StD s G a ar ac (m, er, sk, lg, im, un, tp, kr, kc) H locs → W p l e room_1 s mt #[Value.ref z] below meth c H locs 46 602 Q (F0 mt 1411 ls [.int (nI lg0)])) → W p l e room_1 s mt #[Value.ref z] below meth c H locs 46 602 Q (F0 mt 1398 ls []) := by
    intro kj
    refine lv_iload hx hb dL_law_1398 (lv_at hl 1 rfl) ?_
    refine lv_iconst (v := nI 3) hx hb dL_law_1400 (by decide) ?_
    refine lv_icmp_le (tgt := 1409) hx hb dL_law_1401 (by decide) (fun c1401 => ?_) (fun c1401 => ?_)
    · have c1401 : n0 ≤ 3 := i_le (by omega) (by omega) c1401
      refine lv_bipush (v := nI 15) hx hb dL_law_1409 (by decide) ?_
      refine x_cvi (y := nI lg0) (congrArg nI (by omega)) ?_
      exact kj H locs hS
    · have c1401 : 3 < n0 := i_nle (by omega) (by omega) c1401
      refine lv_bipush (v := nI 16) hx hb dL_law_1404 (by decide) ?_
      refine lv_goto (tgt := 1411) hx hb dL_law_1406 (by decide) ?_
      refine x_cvi (y := nI lg0) (congrArg nI (by omega)) ?_
      exact kj H locs hS
  refine kJ1 (fun H locs hS => ?_)
  refine lv_istore (lv' := [(13, .int (nI lg0)), (12, .int (nI at0)), (7, .int (nI n0)), (3, .int v3), (1, .ref (a 0)), (0, .ref z)]) hx hb dL_law_1411 hl (by decide) rfl (fun ls hl => ?_)
  refine lv_iconst (v := nI 0) hx hb dL_law_1413 (by decide) ?_
  refine lv_istore (lv' := [(14, .int (nI 0)), (13, .int (nI lg0)), (12, .int (nI at0)), (7, .int (nI n0)), (3, .int v3), (1, .ref (a 0)), (0, .ref z)]) hx hb dL_law_1414 hl (by decide) rfl (fun ls hl => ?_)
  exact K _ _ _ hS (lv_sub hl [0, 1, 2, 3, 4, 5, 6] rfl)
set_option maxHeartbeats 4000000 in
set_option maxRecDepth 100000 in
theorem law_b18 {p : Program} {l : Launch} {e : Env} {s : State} {mt : MethodId} {z : Nat} {below : List Frame} {meth : Method} {c : Code} {G : GG} {nm : String} {Q : State → Prop} {a ar ac : Nat → Nat} {L : Nat} {xs : Nat → Int32} {m0 : Nat} {eF sk : Nat → Int32} {im : Nat × (Nat → Int32) × (Nat → Int32) × Int32} {un tp kr kc n0 at0 : Nat} {D0 : Nat → Nat} {v3 v13 : Int32} (X : CX p s mt meth c #[Value.ref z] G wsL_law RL cL_law 16 nm (fun q => s.heap.size ≤ q)) (hX : va_X z L xs s s.heap) (hbl : z < s.heap.size) (hLe : L ≤ 260) (hM0 : hM (sS D0 n0 at0) (vS n0) m0 n0 = 0) (hat : at0 < 49) (K : ∀ (H : Heap) (locs : List Loc) (ls : Array Slot), StD s G a ar ac (hM (sS D0 n0 at0) (vS n0) m0 (n0 + 12), hE (sS D0 n0 at0) (vS n0) eF (n0 + 12), sk, hL (sS D0 n0 at0) (vS n0) eF (cF n0 12) (n0 + 12), im, un, tp, kr, kc) H locs → lv_has ls 16 [(14, .int (nI 12)), (13, .int v13), (12, .int (nI at0)), (7, .int (nI n0)), (3, .int v3), (1, .ref (a 0)), (0, .ref z)] → W p l e room_1 s mt #[Value.ref z] below meth c H locs 46 602 Q (F0 mt 1447 ls [])) : ∀ (r i : Nat), i + r = 12 → ∀ (H : Heap) (locs : List Loc) (ls : Array Slot), StD s G a ar ac (hM (sS D0 n0 at0) (vS n0) m0 (n0 + i), hE (sS D0 n0 at0) (vS n0) eF (n0 + i), sk, hL (sS D0 n0 at0) (vS n0) eF (cF n0 i) (n0 + i), im, un, tp, kr, kc) H locs → lv_has ls 16 [(14, .int (nI i)), (13, .int v13), (12, .int (nI at0)), (7, .int (nI n0)), (3, .int v3), (1, .ref (a 0)), (0, .ref z)] → W p l e room_1 s mt #[Value.ref z] below meth c H locs 46 602 Q (F0 mt 1416 ls []) := by
  obtain ⟨hx, hb, -⟩ := id X
  intro r
  induction r with
  | zero =>
    intro i e0 H locs ls hS hl
    have e1 : i = 12 := by omega
    revert hS hl
    rw [e1]
    intro hS hl
    refine lv_iload hx hb dL_law_1416 (lv_at hl 0 rfl) ?_
    refine lv_bipush (v := nI 12) hx hb dL_law_1418 (by decide) ?_
    refine lv_icmp_ge (tgt := 1447) hx hb dL_law_1420 (by decide) (fun _ => ?_) (fun h => absurd (i_nle (by omega) (by omega) h) (by omega))
    exact K _ _ _ hS (lv_sub hl [0, 1, 2, 3, 4, 5, 6] rfl)
  | succ r ih =>
    intro i e0 H locs ls hS hl
    have hi : i < 12 := by omega
    have hrow := hM_row (S := sS D0 n0 at0) (v := vS n0) hat hM0 sS_2 vS_2 i (by omega)
    obtain ⟨r1, r2, r3⟩ := r12_k at0 hat i hi
    have hq2 : hM (sS D0 n0 at0) (vS n0) m0 (n0 + (i + 1)) = bcm (hM (sS D0 n0 at0) (vS n0) m0 (n0 + i)) (at0 + i) 0 := by
      show bcm _ (sS D0 n0 at0 (n0 + i)) (vS n0 (n0 + i)) = _
      rw [sS_2, vS_2]
      rfl
    have hq3 : hE (sS D0 n0 at0) (vS n0) eF (n0 + (i + 1)) = upd (hE (sS D0 n0 at0) (vS n0) eF (n0 + i)) (at0 + i) 0 := by
      show upd _ (sS D0 n0 at0 (n0 + i)) (vS n0 (n0 + i)) = _
      rw [sS_2, vS_2]
      rfl
    refine lv_iload hx hb dL_law_1416 (lv_at hl 0 rfl) ?_
    refine lv_bipush (v := nI 12) hx hb dL_law_1418 (by decide) ?_
    refine lv_icmp_ge (tgt := 1447) hx hb dL_law_1420 (by decide) (fun h => absurd (i_le (by omega) (by omega) h) (by omega)) (fun _ => ?_)
    refine lv_aload_n hx hb dL_law_1423 rfl (lv_at hl 5 rfl) ?_
    refine lv_iload hx hb dL_law_1424 (lv_at hl 2 rfl) ?_
    refine lv_iload hx hb dL_law_1426 (lv_at hl 0 rfl) ?_
    refine lv_iadd hx hb dL_law_1428 ?_
    refine x_cvi (y := nI (at0 + i)) (nI_add _ _) ?_
    refine r_put  (at0 + i) (by omega) (by rw [hrow]; exact r3) (by rw [hrow, r2]; omega) X hS hl.1 (Nat.le_of_ble_eq_true rfl) dL_law_1429 (fun H locs hS => ?_)
    have hS : StD s G a ar ac (hM (sS D0 n0 at0) (vS n0) m0 (n0 + (i + 1)), hE (sS D0 n0 at0) (vS n0) eF (n0 + (i + 1)), sk, hL (sS D0 n0 at0) (vS n0) eF (cF n0 (i + 1)) (n0 + (i + 1)), im, un, tp, kr, kc) H locs := by
      rw [hq2, hq3, ← hL_c, sS_2]
      exact hS
    refine x_cvi (y := nI (i + 1)) (congrArg nI (by rw [hrow, r1]; exact r12_pc at0 hat (i + 1) (by omega))) ?_
    refine lv_iload hx hb dL_law_1432 (lv_at hl 0 rfl) ?_
    refine lv_iconst (v := nI 1) hx hb dL_law_1434 (by decide) ?_
    refine lv_iadd hx hb dL_law_1435 ?_
    refine x_cvi (y := nI (i + 1)) (nI_add _ _) ?_
    refine lv_icmp_eq (tgt := 1441) hx hb dL_law_1436 (by decide) (fun _ => ?_) (fun h => absurd rfl h)
    refine lv_iinc (v := nI (i + 1)) (lv' := [(14, .int (nI (i + 1))), (13, .int v13), (12, .int (nI at0)), (7, .int (nI n0)), (3, .int v3), (1, .ref (a 0)), (0, .ref z)]) hx hb dL_law_1441 hl (k := 0) rfl (by exact nI_1 _) (by decide) rfl (fun ls hl => ?_)
    refine lv_goto (tgt := 1416) hx hb dL_law_1444 (by decide) ?_
    exact ih (i + 1) (by omega) _ _ _ hS (lv_sub hl [0, 1, 2, 3, 4, 5, 6] rfl)
set_option maxHeartbeats 4000000 in
set_option maxRecDepth 100000 in
theorem law_b19 {p : Program} {l : Launch} {e : Env} {s : State} {mt : MethodId} {z : Nat} {below : List Frame} {meth : Method} {c : Code} {G : GG} {nm : String} {Q : State → Prop} {a ar ac : Nat → Nat} {L : Nat} {xs : Nat → Int32} {er sk : Nat → Int32} {lg : List (Nat × Int32)} {im : Nat × (Nat → Int32) × (Nat → Int32) × Int32} {un tp kr kc at0 lg0 : Nat} {v3 v7 : Int32} (X : CX p s mt meth c #[Value.ref z] G wsL_law RL cL_law 16 nm (fun q => s.heap.size ≤ q)) (hX : va_X z L xs s s.heap) (hbl : z < s.heap.size) (hLe : L ≤ 260) (hat : at0 < 49) (hlg : lg.length = lg0) (K : ∀ (H : Heap) (locs : List Loc) (ls : Array Slot), StD s G a ar ac (rw12 12 at0, er, sk, lg, im, un, tp, kr, kc) H locs → lv_has ls 16 [(14, .int (nI 0)), (13, .int (nI lg0)), (7, .int v7), (3, .int v3), (1, .ref (a 0)), (0, .ref z)] → W p l e room_1 s mt #[Value.ref z] below meth c H locs 46 602 Q (F0 mt 1585 ls [])) {H : Heap} {locs : List Loc} {ls : Array Slot} (hS : StD s G a ar ac (rw12 12 at0, er, sk, lg, im, un, tp, kr, kc) H locs) (hl : lv_has ls 16 [(13, .int (nI lg0)), (12, .int (nI at0)), (7, .int v7), (3, .int v3), (1, .ref (a 0)), (0, .ref z)]) : W p l e room_1 s mt #[Value.ref z] below meth c H locs 46 602 Q (F0 mt 1447 ls []) := by
  obtain ⟨hx, hb, -⟩ := id X
  refine lv_aload_n hx hb dL_law_1447 rfl (lv_at hl 4 rfl) ?_
  refine lv_iload hx hb dL_law_1448 (lv_at hl 1 rfl) ?_
  refine lv_bipush (v := nI 12) hx hb dL_law_1450 (by decide) ?_
  refine lv_iadd hx hb dL_law_1452 ?_
  refine x_cvi (y := nI (at0 + 12)) (nI_add _ _) ?_
  refine lv_bipush (v := nI 60) hx hb dL_law_1453 (by decide) ?_
  refine lv_icmp_le (tgt := 1462) hx hb dL_law_1455 (by decide) (fun _ => ?_) (fun h => absurd (i_nle (by omega) (by omega) h) (by omega))
  refine lv_iload hx hb dL_law_1462 (lv_at hl 1 rfl) ?_
  refine lv_bipush (v := nI 12) hx hb dL_law_1464 (by decide) ?_
  refine lv_iadd hx hb dL_law_1466 ?_
  refine x_cvi (y := nI (at0 + 12)) (nI_add _ _) ?_
  refine r_putF  (nI (at0 + 12)) ((r12_p at0 hat).2.1) X hS hl.1 (Nat.le_of_ble_eq_true rfl) dL_law_1467 (fun H locs hS => ?_)
  refine x_cvi (y := (-4)) ((r12_p at0 hat).2.2) ?_
  refine lv_bipush (v := (-4)) hx hb dL_law_1470 (by decide) ?_
  refine lv_icmp_ne (tgt := 1580) hx hb dL_law_1472 (by decide) (fun h => absurd rfl h) (fun _ => ?_)
  refine lv_aload_n hx hb dL_law_1475 rfl (lv_at hl 4 rfl) ?_
  refine lv_iconst (v := nI 2) hx hb dL_law_1476 (by decide) ?_
  refine r_facts  (nI 2)  X hS hl.1 (Nat.le_of_ble_eq_true rfl) dL_law_1477 (fun H locs hS => ?_)
  refine x_cvi (y := nI 11) ((r12_f at0 hat).1) ?_
  refine lv_bipush (v := nI 11) hx hb dL_law_1480 (by decide) ?_
  refine lv_icmp_ne (tgt := 1580) hx hb dL_law_1482 (by decide) (fun h => absurd rfl h) (fun _ => ?_)
  refine lv_aload_n hx hb dL_law_1485 rfl (lv_at hl 4 rfl) ?_
  refine lv_iconst (v := nI 4) hx hb dL_law_1486 (by decide) ?_
  refine r_facts  (nI 4)  X hS hl.1 (Nat.le_of_ble_eq_true rfl) dL_law_1487 (fun H locs hS => ?_)
  refine x_cvi (y := nI 55) ((r12_f at0 hat).2.1) ?_
  refine lv_bipush (v := nI 55) hx hb dL_law_1490 (by decide) ?_
  refine lv_icmp_ne (tgt := 1580) hx hb dL_law_1492 (by decide) (fun h => absurd rfl h) (fun _ => ?_)
  refine lv_aload_n hx hb dL_law_1495 rfl (lv_at hl 4 rfl) ?_
  refine lv_bipush (v := nI 6) hx hb dL_law_1496 (by decide) ?_
  refine r_facts  (nI 6)  X hS hl.1 (Nat.le_of_ble_eq_true rfl) dL_law_1498 (fun H locs hS => ?_)
  refine x_cvi (y := nI 1) ((r12_f at0 hat).2.2.1) ?_
  refine lv_iconst (v := nI 1) hx hb dL_law_1501 (by decide) ?_
  refine lv_icmp_ne (tgt := 1580) hx hb dL_law_1502 (by decide) (fun h => absurd rfl h) (fun _ => ?_)
  refine lv_aload_n hx hb dL_law_1505 rfl (lv_at hl 4 rfl) ?_
  refine lv_iconst (v := nI 1) hx hb dL_law_1506 (by decide) ?_
  refine r_spacing  (nI 1)  X hS hl.1 (Nat.le_of_ble_eq_true rfl) dL_law_1507 (fun H locs hS => ?_)
  refine x_cvi (y := nI 11) ((r12_f at0 hat).2.2.2.1) ?_
  refine lv_bipush (v := nI 11) hx hb dL_law_1510 (by decide) ?_
  refine lv_icmp_ne (tgt := 1580) hx hb dL_law_1512 (by decide) (fun h => absurd rfl h) (fun _ => ?_)
  refine lv_aload_n hx hb dL_law_1515 rfl (lv_at hl 4 rfl) ?_
  refine lv_bipush (v := nI 11) hx hb dL_law_1516 (by decide) ?_
  refine r_spacing  (nI 11)  X hS hl.1 (Nat.le_of_ble_eq_true rfl) dL_law_1518 (fun H locs hS => ?_)
  refine x_cvi (y := nI 1) ((r12_f at0 hat).2.2.2.2) ?_
  refine lv_iconst (v := nI 1) hx hb dL_law_1521 (by decide) ?_
  refine lv_icmp_ne (tgt := 1580) hx hb dL_law_1522 (by decide) (fun h => absurd rfl h) (fun _ => ?_)
  refine lv_aload_n hx hb dL_law_1525 rfl (lv_at hl 4 rfl) ?_
  refine r_sure    X hS hl.1 (Nat.le_of_ble_eq_true rfl) dL_law_1526 (fun H locs hS => ?_)
  refine x_cvi (y := nI 10) ((r12_m hat).1) ?_
  refine lv_bipush (v := nI 10) hx hb dL_law_1529 (by decide) ?_
  refine lv_icmp_ne (tgt := 1580) hx hb dL_law_1531 (by decide) (fun h => absurd rfl h) (fun _ => ?_)
  refine lv_aload_n hx hb dL_law_1534 rfl (lv_at hl 4 rfl) ?_
  refine lv_iconst (v := nI 0) hx hb dL_law_1535 (by decide) ?_
  refine r_missed  (nI 0)  X hS hl.1 (Nat.le_of_ble_eq_true rfl) dL_law_1536 (fun H locs hS => ?_)
  refine x_cvi (y := nI at0) ((r12_m hat).2.1) ?_
  refine lv_iload hx hb dL_law_1539 (lv_at hl 1 rfl) ?_
  refine lv_icmp_ne (tgt := 1580) hx hb dL_law_1541 (by decide) (fun h => absurd rfl h) (fun _ => ?_)
  refine lv_aload_n hx hb dL_law_1544 rfl (lv_at hl 4 rfl) ?_
  refine lv_iconst (v := nI 1) hx hb dL_law_1545 (by decide) ?_
  refine r_missed  (nI 1)  X hS hl.1 (Nat.le_of_ble_eq_true rfl) dL_law_1546 (fun H locs hS => ?_)
  refine x_cvi (y := nI (at0 + 11)) ((r12_m hat).2.2.1) ?_
  refine lv_iload hx hb dL_law_1549 (lv_at hl 1 rfl) ?_
  refine lv_bipush (v := nI 11) hx hb dL_law_1551 (by decide) ?_
  refine lv_iadd hx hb dL_law_1553 ?_
  refine x_cvi (y := nI (at0 + 11)) (nI_add _ _) ?_
  refine lv_icmp_ne (tgt := 1580) hx hb dL_law_1554 (by decide) (fun h => absurd rfl h) (fun _ => ?_)
  refine lv_aload_n hx hb dL_law_1557 rfl (lv_at hl 4 rfl) ?_
  refine lv_iload hx hb dL_law_1558 (lv_at hl 1 rfl) ?_
  refine lv_iconst (v := nI 5) hx hb dL_law_1560 (by decide) ?_
  refine lv_iadd hx hb dL_law_1561 ?_
  refine x_cvi (y := nI (at0 + 5)) (nI_add _ _) ?_
  refine r_left  (nI (at0 + 5))  X hS hl.1 (Nat.le_of_ble_eq_true rfl) dL_law_1562 (fun H locs hS => ?_)
  refine x_cvi (y := nI 11) ((r12_m hat).2.2.2) ?_
  refine lv_bipush (v := nI 11) hx hb dL_law_1565 (by decide) ?_
  refine lv_icmp_ne (tgt := 1580) hx hb dL_law_1567 (by decide) (fun h => absurd rfl h) (fun _ => ?_)
  refine lv_aload_n hx hb dL_law_1570 rfl (lv_at hl 4 rfl) ?_
  refine lv_iconst (v := nI 0) hx hb dL_law_1571 (by decide) ?_
  refine r_told  (nI 0)  X hS hl.1 (Nat.le_of_ble_eq_true rfl) dL_law_1572 (fun H locs hS => ?_)
  refine x_cvi (y := nI lg0) (by rw [td_0, hlg]) ?_
  refine lv_iload hx hb dL_law_1575 (lv_at hl 0 rfl) ?_
  refine lv_icmp_eq (tgt := 1582) hx hb dL_law_1577 (by decide) (fun _ => ?_) (fun h => absurd rfl h)
  refine lv_iconst (v := nI 0) hx hb dL_law_1582 (by decide) ?_
  refine lv_istore (lv' := [(14, .int (nI 0)), (13, .int (nI lg0)), (12, .int (nI at0)), (7, .int v7), (3, .int v3), (1, .ref (a 0)), (0, .ref z)]) hx hb dL_law_1583 hl (by decide) rfl (fun ls hl => ?_)
  exact K _ _ _ hS (lv_sub hl [0, 1, 3, 4, 5, 6] rfl)
set_option maxHeartbeats 4000000 in
set_option maxRecDepth 100000 in
theorem law_b20 {p : Program} {l : Launch} {e : Env} {s : State} {mt : MethodId} {z : Nat} {below : List Frame} {meth : Method} {c : Code} {G : GG} {nm : String} {Q : State → Prop} {a ar ac : Nat → Nat} {L : Nat} {xs : Nat → Int32} {m0 : Nat} {eF sk : Nat → Int32} {im : Nat × (Nat → Int32) × (Nat → Int32) × Int32} {un tp kr kc n0 at0 lg0 : Nat} {D0 : Nat → Nat} {v3 v7 : Int32} (X : CX p s mt meth c #[Value.ref z] G wsL_law RL cL_law 16 nm (fun q => s.heap.size ≤ q)) (hX : va_X z L xs s s.heap) (hbl : z < s.heap.size) (hLe : L ≤ 260) (hdE : dE m0 eF) (hs6 : ∀ k, k < n0 + 12 → sS D0 n0 at0 k ≤ 60) (hlg6 : lg0 ≤ n0 + 12) (hlg7 : lg0 ≤ 16) (K : ∀ (H : Heap) (locs : List Loc) (ls : Array Slot), StD s G a ar ac (hM (sS D0 n0 at0) (vS n0) m0 (n0 + 12 - lg0), hE (sS D0 n0 at0) (vS n0) eF (n0 + 12 - lg0), sk, hL (sS D0 n0 at0) (vS n0) eF (lg0 - lg0) (n0 + 12 - lg0), im, un + lg0, tp, kr, kc) H locs → lv_has ls 16 [(14, .int (nI lg0)), (13, .int (nI lg0)), (7, .int v7), (3, .int v3), (1, .ref (a 0)), (0, .ref z)] → W p l e room_1 s mt #[Value.ref z] below meth c H locs 46 602 Q (F0 mt 1614 ls [])) : ∀ (r i : Nat), i + r = lg0 → ∀ (H : Heap) (locs : List Loc) (ls : Array Slot), StD s G a ar ac (hM (sS D0 n0 at0) (vS n0) m0 (n0 + 12 - i), hE (sS D0 n0 at0) (vS n0) eF (n0 + 12 - i), sk, hL (sS D0 n0 at0) (vS n0) eF (lg0 - i) (n0 + 12 - i), im, un + i, tp, kr, kc) H locs → lv_has ls 16 [(14, .int (nI i)), (13, .int (nI lg0)), (7, .int v7), (3, .int v3), (1, .ref (a 0)), (0, .ref z)] → W p l e room_1 s mt #[Value.ref z] below meth c H locs 46 602 Q (F0 mt 1585 ls []) := by
  obtain ⟨hx, hb, -⟩ := id X
  intro r
  induction r with
  | zero =>
    intro i e0 H locs ls hS hl
    have e1 : i = lg0 := by omega
    revert hS hl
    rw [e1]
    intro hS hl
    refine lv_iload hx hb dL_law_1585 (lv_at hl 0 rfl) ?_
    refine lv_iload hx hb dL_law_1587 (lv_at hl 1 rfl) ?_
    refine lv_icmp_ge (tgt := 1614) hx hb dL_law_1589 (by decide) (fun _ => ?_) (fun h => absurd (i_nle (by omega) (by omega) h) (by omega))
    exact K _ _ _ hS (lv_sub hl [0, 1, 2, 3, 4, 5] rfl)
  | succ r ih =>
    intro i e0 H locs ls hS hl
    have hi : i < lg0 := by omega
    refine lv_iload hx hb dL_law_1585 (lv_at hl 0 rfl) ?_
    refine lv_iload hx hb dL_law_1587 (lv_at hl 1 rfl) ?_
    refine lv_icmp_ge (tgt := 1614) hx hb dL_law_1589 (by decide) (fun h => absurd (i_le (by omega) (by omega) h) (by omega)) (fun _ => ?_)
    rw [show n0 + 12 - i = n0 + 11 - i + 1 by omega, show lg0 - i = lg0 - 1 - i + 1 by omega] at hS
    have hS : StD s G a ar ac (hM (sS D0 n0 at0) (vS n0) m0 (n0 + 11 - i + 1), hE (sS D0 n0 at0) (vS n0) eF (n0 + 11 - i + 1), sk, (sS D0 n0 at0 (n0 + 11 - i), hE (sS D0 n0 at0) (vS n0) eF (n0 + 11 - i) (sS D0 n0 at0 (n0 + 11 - i))) :: hL (sS D0 n0 at0) (vS n0) eF (lg0 - 1 - i) (n0 + 11 - i), im, un + i, tp, kr, kc) H locs := hS
    refine lv_aload_n hx hb dL_law_1592 rfl (lv_at hl 4 rfl) ?_
    refine r_undo (lg := []) (sS D0 n0 at0 (n0 + 11 - i)) (hE (sS D0 n0 at0) (vS n0) eF (n0 + 11 - i) (sS D0 n0 at0 (n0 + 11 - i))) (hL (sS D0 n0 at0) (vS n0) eF (lg0 - 1 - i) (n0 + 11 - i))  X hS hl.1 (Nat.le_of_ble_eq_true rfl) dL_law_1593 (fun H locs hS => ?_)
    have hS : StD s G a ar ac (hM (sS D0 n0 at0) (vS n0) m0 (n0 + 11 - i), hE (sS D0 n0 at0) (vS n0) eF (n0 + 11 - i), sk, hL (sS D0 n0 at0) (vS n0) eF (lg0 - 1 - i) (n0 + 11 - i), im, un + i + 1, tp, kr, kc) H locs := by
      rw [h_backM hdE (hs6 _ (by omega)), h_backE] at hS
      exact hS
    refine x_cvi (y := nI (lg0 - 1 - i)) (by rw [hL_len]) ?_
    refine lv_iload hx hb dL_law_1596 (lv_at hl 1 rfl) ?_
    refine lv_iconst (v := nI 1) hx hb dL_law_1598 (by decide) ?_
    refine lv_isub hx hb dL_law_1599 ?_
    refine x_cvi (y := nI (lg0 - 1)) (pk_sub (by omega)) ?_
    refine lv_iload hx hb dL_law_1600 (lv_at hl 0 rfl) ?_
    refine lv_isub hx hb dL_law_1602 ?_
    refine x_cvi (y := nI ((lg0 - 1) - i)) (pk_sub (by omega)) ?_
    refine lv_icmp_eq (tgt := 1608) hx hb dL_law_1603 (by decide) (fun _ => ?_) (fun h => absurd rfl h)
    refine lv_iinc (v := nI (i + 1)) (lv' := [(14, .int (nI (i + 1))), (13, .int (nI lg0)), (7, .int v7), (3, .int v3), (1, .ref (a 0)), (0, .ref z)]) hx hb dL_law_1608 hl (k := 0) rfl (by exact nI_1 _) (by decide) rfl (fun ls hl => ?_)
    refine lv_goto (tgt := 1585) hx hb dL_law_1611 (by decide) ?_
    have hS : StD s G a ar ac (hM (sS D0 n0 at0) (vS n0) m0 (n0 + 12 - (i + 1)), hE (sS D0 n0 at0) (vS n0) eF (n0 + 12 - (i + 1)), sk, hL (sS D0 n0 at0) (vS n0) eF (lg0 - (i + 1)) (n0 + 12 - (i + 1)), im, un + (i + 1), tp, kr, kc) H locs := by
      rw [show n0 + 11 - i = n0 + 12 - (i + 1) by omega, show lg0 - 1 - i = lg0 - (i + 1) by omega] at hS
      exact hS
    exact ih (i + 1) (by omega) _ _ _ hS (lv_sub hl [0, 1, 2, 3, 4, 5] rfl)
set_option maxHeartbeats 4000000 in
set_option maxRecDepth 100000 in
theorem law_b21 {p : Program} {l : Launch} {e : Env} {s : State} {mt : MethodId} {z : Nat} {below : List Frame} {meth : Method} {c : Code} {G : GG} {nm : String} {Q : State → Prop} {a ar ac : Nat → Nat} {L : Nat} {xs : Nat → Int32} {m : Nat} {er sk : Nat → Int32} {im : Nat × (Nat → Int32) × (Nat → Int32) × Int32} {tp n0 lg0 : Nat} (X : CX p s mt meth c #[Value.ref z] G wsL_law RL cL_law 16 nm (fun q => s.heap.size ≤ q)) (hX : va_X z L xs s s.heap) (hbl : z < s.heap.size) (hLe : L ≤ 260) (hn8 : n0 ≤ 8) (hme : pcN 64 m = (if 3 < n0 then 4 else n0)) (K : ∀ (H : Heap) (locs : List Loc) (ls : Array Slot), StD s G a ar ac (m, er, sk, [], im, 2 * n0 + lg0, tp, 252, 2097150) H locs → lv_has ls 16 [(13, .int (nI lg0)), (7, .int (nI n0)), (3, .int (nI 173631)), (1, .ref (a 0)), (0, .ref z)] → W p l e room_1 s mt #[Value.ref z] below meth c H locs 46 602 Q (F0 mt 1682 ls [.int (nI 1)])) {H : Heap} {locs : List Loc} {ls : Array Slot} (hS : StD s G a ar ac (m, er, sk, [], im, 2 * n0 + lg0, tp, 252, 2097150) H locs) (hl : lv_has ls 16 [(13, .int (nI lg0)), (7, .int (nI n0)), (3, .int (nI 173631)), (1, .ref (a 0)), (0, .ref z)]) : W p l e room_1 s mt #[Value.ref z] below meth c H locs 46 602 Q (F0 mt 1614 ls []) := by
  obtain ⟨hx, hb, -⟩ := id X
  refine lv_aload_n hx hb dL_law_1614 rfl (lv_at hl 3 rfl) ?_
  refine r_undo0 (lg := [])   X hS hl.1 (Nat.le_of_ble_eq_true rfl) dL_law_1615 (fun H locs hS => ?_)
  refine lv_bipush (v := (-5)) hx hb dL_law_1618 (by decide) ?_
  refine lv_icmp_ne (tgt := 1681) hx hb dL_law_1620 (by decide) (fun h => absurd rfl h) (fun _ => ?_)
  refine lv_aload_n hx hb dL_law_1623 rfl (lv_at hl 3 rfl) ?_
  refine lv_iconst (v := nI 3) hx hb dL_law_1624 (by decide) ?_
  refine r_told  (nI 3)  X hS hl.1 (Nat.le_of_ble_eq_true rfl) dL_law_1625 (fun H locs hS => ?_)
  refine x_cvi (y := nI (2 * n0 + lg0)) (td_3) ?_
  refine lv_iconst (v := nI 2) hx hb dL_law_1628 (by decide) ?_
  refine lv_iload hx hb dL_law_1629 (lv_at hl 1 rfl) ?_
  refine lv_imul hx hb dL_law_1631 ?_
  refine x_cvi (y := nI (2 * n0)) (pk_mul _ _) ?_
  refine lv_iload hx hb dL_law_1632 (lv_at hl 0 rfl) ?_
  refine lv_iadd hx hb dL_law_1634 ?_
  refine x_cvi (y := nI (2 * n0 + lg0)) (nI_add _ _) ?_
  refine lv_icmp_ne (tgt := 1681) hx hb dL_law_1635 (by decide) (fun h => absurd rfl h) (fun _ => ?_)
  refine lv_aload_n hx hb dL_law_1638 rfl (lv_at hl 3 rfl) ?_
  refine lv_iconst (v := nI 1) hx hb dL_law_1639 (by decide) ?_
  refine r_told  (nI 1)  X hS hl.1 (Nat.le_of_ble_eq_true rfl) dL_law_1640 (fun H locs hS => ?_)
  refine x_cvi (y := nI 26) (by rw [td_1, nI_add, kcF_e.2.1]) ?_
  refine lv_bipush (v := nI 26) hx hb dL_law_1643 (by decide) ?_
  refine lv_icmp_ne (tgt := 1681) hx hb dL_law_1645 (by decide) (fun h => absurd rfl h) (fun _ => ?_)
  refine lv_aload_n hx hb dL_law_1648 rfl (lv_at hl 3 rfl) ?_
  refine lv_iconst (v := nI 2) hx hb dL_law_1649 (by decide) ?_
  refine r_told  (nI 2)  X hS hl.1 (Nat.le_of_ble_eq_true rfl) dL_law_1650 (fun H locs hS => ?_)
  refine x_cvi (y := nI 173631) (by rw [td_2, tt_r (by decide) (by decide), tt_c (by decide), kcF_e.2.2.1, kcF_e.2.2.2.1, nI_add]) ?_
  refine lv_iload_n hx hb dL_law_1653 rfl (lv_at hl 2 rfl) ?_
  refine lv_icmp_ne (tgt := 1681) hx hb dL_law_1654 (by decide) (fun h => absurd rfl h) (fun _ => ?_)
  refine lv_aload_n hx hb dL_law_1657 rfl (lv_at hl 3 rfl) ?_
  refine lv_iconst (v := nI 0) hx hb dL_law_1658 (by decide) ?_
  refine r_facts  (nI 0)  X hS hl.1 (Nat.le_of_ble_eq_true rfl) dL_law_1659 (fun H locs hS => ?_)
  refine x_cvi (y := nI (if 3 < n0 then 4 else n0)) (by rw [fa_0, hme]) ?_
  have kJ1 : (∀ (H : Heap) (locs : List Loc), StD s G a ar ac (m, er, sk, [], im, 2 * n0 + lg0, tp, 252, 2097150) H locs → W p l e room_1 s mt #[Value.ref z] below meth c H locs 46 602 Q (F0 mt 1674 ls [.int (nI (if 3 < n0 then 4 else n0)), .int (nI (if 3 < n0 then 4 else n0))])) → W p l e room_1 s mt #[Value.ref z] below meth c H locs 46 602 Q (F0 mt 1662 ls [.int (nI (if 3 < n0 then 4 else n0))]) := by
    intro kj
    refine lv_iload hx hb dL_law_1662 (lv_at hl 1 rfl) ?_
    refine lv_iconst (v := nI 3) hx hb dL_law_1664 (by decide) ?_
    refine lv_icmp_le (tgt := 1672) hx hb dL_law_1665 (by decide) (fun c1665 => ?_) (fun c1665 => ?_)
    · have c1665 : n0 ≤ 3 := i_le (by omega) (by omega) c1665
      refine lv_iload hx hb dL_law_1672 (lv_at hl 1 rfl) ?_
      refine x_cvi (y := nI (if 3 < n0 then 4 else n0)) (congrArg nI (by split <;> omega)) ?_
      exact kj H locs hS
    · have c1665 : 3 < n0 := i_nle (by omega) (by omega) c1665
      refine lv_iconst (v := nI 4) hx hb dL_law_1668 (by decide) ?_
      refine lv_goto (tgt := 1674) hx hb dL_law_1669 (by decide) ?_
      refine x_cvi (y := nI (if 3 < n0 then 4 else n0)) (congrArg nI (by split <;> omega)) ?_
      exact kj H locs hS
  refine kJ1 (fun H locs hS => ?_)
  refine lv_icmp_ne (tgt := 1681) hx hb dL_law_1674 (by decide) (fun h => absurd rfl h) (fun _ => ?_)
  refine lv_iconst (v := nI 1) hx hb dL_law_1677 (by decide) ?_
  refine lv_goto (tgt := 1682) hx hb dL_law_1678 (by decide) ?_
  exact K _ _ _ hS (lv_sub hl [0, 1, 2, 3, 4] rfl)
