/-! The law: the closures, three loops in one another, twice. -/
set_option maxHeartbeats 4000000 in
set_option maxRecDepth 100000 in
theorem law_b6k {p : Program} {l : Launch} {e : Env} {s : State} {mt : MethodId} {z : Nat} {below : List Frame} {meth : Method} {c : Code} {G : GG} {nm : String} {Q : State → Prop} {a ar ac : Nat → Nat} {L : Nat} {xs : Nat → Int32} {m : Nat} {er sk : Nat → Int32} {lg : List (Nat × Int32)} {im : Nat × (Nat → Int32) × (Nat → Int32) × Int32} {un tp kr kc n0 : Nat} {D0 sz ff : Nat → Nat} {v6 v5 v3 : Int32} {i j : Nat} {y0 : Int32} (X : CX p s mt meth c #[Value.ref z] G wsL_law RL cL_law 16 nm (fun q => s.heap.size ≤ q)) (hX : va_X z L xs s s.heap) (hbl : z < s.heap.size) (hLe : L ≤ 260) (hK : MK m n0 D0) (hn8 : n0 ≤ 8) (hsk : ∀ x, sk x = nI (sz x)) (hsl : ∀ x, sz x < 360) (her : ∀ j, j < n0 → er (D0 j) = nI (ff j) ∧ ff j < 360) (hi0 : i < n0) (hj0 : j < n0) (K : ∀ (H : Heap) (locs : List Loc) (ls : Array Slot), StD s G a ar ac (m, er, sk, lg, im, un, tp, kr, kc) H locs → lv_has ls 16 [(11, .int (nI n0)), (10, .int (nI j)), (9, .int (nI i)), (8, .int (fK (gD sz D0) i j n0 y0)), (7, .int (nI n0)), (6, .int v6), (5, .int v5), (3, .int v3), (1, .ref (a 0)), (0, .ref z)] → W p l e room_1 s mt #[Value.ref z] below meth c H locs 46 602 Q (F0 mt 749 ls [])) : ∀ (r k : Nat), k + r = n0 → ∀ (H : Heap) (locs : List Loc) (ls : Array Slot), StD s G a ar ac (m, er, sk, lg, im, un, tp, kr, kc) H locs → lv_has ls 16 [(11, .int (nI k)), (10, .int (nI j)), (9, .int (nI i)), (8, .int (fK (gD sz D0) i j k y0)), (7, .int (nI n0)), (6, .int v6), (5, .int v5), (3, .int v3), (1, .ref (a 0)), (0, .ref z)] → W p l e room_1 s mt #[Value.ref z] below meth c H locs 46 602 Q (F0 mt 706 ls []) := by
  obtain ⟨hx, hb, -⟩ := id X
  intro r
  induction r with
  | zero =>
    intro k e0 H locs ls hS hl
    have e1 : k = n0 := by omega
    revert hS hl
    rw [e1]
    intro hS hl
    refine lv_iload hx hb dL_law_706 (lv_at hl 0 rfl) ?_
    refine lv_iload hx hb dL_law_708 (lv_at hl 4 rfl) ?_
    refine lv_icmp_ge (tgt := 749) hx hb dL_law_710 (by decide) (fun _ => ?_) (fun h => absurd (i_nle (by omega) (by omega) h) (by omega))
    exact K _ _ _ hS (lv_sub hl [0, 1, 2, 3, 4, 5, 6, 7, 8, 9] rfl)
  | succ r ih =>
    intro k e0 H locs ls hS hl
    have hi : k < n0 := by omega
    refine lv_iload hx hb dL_law_706 (lv_at hl 0 rfl) ?_
    refine lv_iload hx hb dL_law_708 (lv_at hl 4 rfl) ?_
    refine lv_icmp_ge (tgt := 749) hx hb dL_law_710 (by decide) (fun h => absurd (i_le (by omega) (by omega) h) (by omega)) (fun _ => ?_)
    refine lv_bipush (v := nI 31) hx hb dL_law_713 (by decide) ?_
    refine lv_iload hx hb dL_law_715 (lv_at hl 3 rfl) ?_
    refine lv_imul hx hb dL_law_717 ?_
    refine lv_aload_n hx hb dL_law_718 rfl (lv_at hl 8 rfl) ?_
    refine lv_aload_n hx hb dL_law_719 rfl (lv_at hl 8 rfl) ?_
    refine lv_iload hx hb dL_law_720 (lv_at hl 2 rfl) ?_
    refine r_station  (nI i)  X hS hl.1 (Nat.le_of_ble_eq_true rfl) dL_law_722 (fun H locs hS => ?_)
    refine x_cvi (y := nI (D0 i)) (hK.at hi0) ?_
    refine lv_aload_n hx hb dL_law_725 rfl (lv_at hl 8 rfl) ?_
    refine lv_iload hx hb dL_law_726 (lv_at hl 1 rfl) ?_
    refine r_station  (nI j)  X hS hl.1 (Nat.le_of_ble_eq_true rfl) dL_law_728 (fun H locs hS => ?_)
    refine x_cvi (y := nI (D0 j)) (hK.at hj0) ?_
    refine lv_aload_n hx hb dL_law_731 rfl (lv_at hl 8 rfl) ?_
    refine lv_iload hx hb dL_law_732 (lv_at hl 0 rfl) ?_
    refine r_station  (nI k)  X hS hl.1 (Nat.le_of_ble_eq_true rfl) dL_law_734 (fun H locs hS => ?_)
    refine x_cvi (y := nI (D0 k)) (hK.at hi) ?_
    refine r_closure  (nI (D0 i)) (nI (D0 j)) (nI (D0 k))  X hS hl.1 (Nat.le_of_ble_eq_true rfl) dL_law_737 (fun H locs hS => ?_)
    refine x_cvi (y := gD sz D0 i j k) (cl_v hK hsk hsl her hi0 hj0 hi) ?_
    refine lv_iadd hx hb dL_law_740 ?_
    refine x_cvi (y := fK (gD sz D0) i j (k + 1) y0) (rfl) ?_
    refine lv_istore (lv' := [(8, .int (fK (gD sz D0) i j (k + 1) y0)), (11, .int (nI k)), (10, .int (nI j)), (9, .int (nI i)), (7, .int (nI n0)), (6, .int v6), (5, .int v5), (3, .int v3), (1, .ref (a 0)), (0, .ref z)]) hx hb dL_law_741 hl (by decide) rfl (fun ls hl => ?_)
    refine lv_iinc (v := nI (k + 1)) (lv' := [(11, .int (nI (k + 1))), (8, .int (fK (gD sz D0) i j (k + 1) y0)), (10, .int (nI j)), (9, .int (nI i)), (7, .int (nI n0)), (6, .int v6), (5, .int v5), (3, .int v3), (1, .ref (a 0)), (0, .ref z)]) hx hb dL_law_743 hl (k := 1) rfl (by exact nI_1 _) (by decide) rfl (fun ls hl => ?_)
    refine lv_goto (tgt := 706) hx hb dL_law_746 (by decide) ?_
    exact ih (k + 1) (by omega) _ _ _ hS (lv_sub hl [0, 2, 3, 1, 4, 5, 6, 7, 8, 9] rfl)
set_option maxHeartbeats 4000000 in
set_option maxRecDepth 100000 in
theorem law_b6j {p : Program} {l : Launch} {e : Env} {s : State} {mt : MethodId} {z : Nat} {below : List Frame} {meth : Method} {c : Code} {G : GG} {nm : String} {Q : State → Prop} {a ar ac : Nat → Nat} {L : Nat} {xs : Nat → Int32} {m : Nat} {er sk : Nat → Int32} {lg : List (Nat × Int32)} {im : Nat × (Nat → Int32) × (Nat → Int32) × Int32} {un tp kr kc n0 : Nat} {D0 sz ff : Nat → Nat} {v6 v5 v3 : Int32} {i : Nat} {y0 : Int32} (X : CX p s mt meth c #[Value.ref z] G wsL_law RL cL_law 16 nm (fun q => s.heap.size ≤ q)) (hX : va_X z L xs s s.heap) (hbl : z < s.heap.size) (hLe : L ≤ 260) (hK : MK m n0 D0) (hn8 : n0 ≤ 8) (hsk : ∀ x, sk x = nI (sz x)) (hsl : ∀ x, sz x < 360) (her : ∀ j, j < n0 → er (D0 j) = nI (ff j) ∧ ff j < 360) (hi0 : i < n0) (K : ∀ (H : Heap) (locs : List Loc) (ls : Array Slot), StD s G a ar ac (m, er, sk, lg, im, un, tp, kr, kc) H locs → lv_has ls 16 [(10, .int (nI n0)), (9, .int (nI i)), (8, .int (fJ (gD sz D0) n0 i n0 y0)), (7, .int (nI n0)), (6, .int v6), (5, .int v5), (3, .int v3), (1, .ref (a 0)), (0, .ref z)] → W p l e room_1 s mt #[Value.ref z] below meth c H locs 46 602 Q (F0 mt 755 ls [])) : ∀ (r j : Nat), j + r = n0 → ∀ (H : Heap) (locs : List Loc) (ls : Array Slot), StD s G a ar ac (m, er, sk, lg, im, un, tp, kr, kc) H locs → lv_has ls 16 [(10, .int (nI j)), (9, .int (nI i)), (8, .int (fJ (gD sz D0) n0 i j y0)), (7, .int (nI n0)), (6, .int v6), (5, .int v5), (3, .int v3), (1, .ref (a 0)), (0, .ref z)] → W p l e room_1 s mt #[Value.ref z] below meth c H locs 46 602 Q (F0 mt 696 ls []) := by
  obtain ⟨hx, hb, -⟩ := id X
  intro r
  induction r with
  | zero =>
    intro j e0 H locs ls hS hl
    have e1 : j = n0 := by omega
    revert hS hl
    rw [e1]
    intro hS hl
    refine lv_iload hx hb dL_law_696 (lv_at hl 0 rfl) ?_
    refine lv_iload hx hb dL_law_698 (lv_at hl 3 rfl) ?_
    refine lv_icmp_ge (tgt := 755) hx hb dL_law_700 (by decide) (fun _ => ?_) (fun h => absurd (i_nle (by omega) (by omega) h) (by omega))
    exact K _ _ _ hS (lv_sub hl [0, 1, 2, 3, 4, 5, 6, 7, 8] rfl)
  | succ r ih =>
    intro j e0 H locs ls hS hl
    have hi : j < n0 := by omega
    refine lv_iload hx hb dL_law_696 (lv_at hl 0 rfl) ?_
    refine lv_iload hx hb dL_law_698 (lv_at hl 3 rfl) ?_
    refine lv_icmp_ge (tgt := 755) hx hb dL_law_700 (by decide) (fun h => absurd (i_le (by omega) (by omega) h) (by omega)) (fun _ => ?_)
    refine lv_iconst (v := nI 0) hx hb dL_law_703 (by decide) ?_
    refine lv_istore (lv' := [(11, .int (nI 0)), (10, .int (nI j)), (9, .int (nI i)), (8, .int (fJ (gD sz D0) n0 i j y0)), (7, .int (nI n0)), (6, .int v6), (5, .int v5), (3, .int v3), (1, .ref (a 0)), (0, .ref z)]) hx hb dL_law_704 hl (by decide) rfl (fun ls hl => ?_)
    refine law_b6k (y0 := fJ (gD sz D0) n0 i j y0) X hX hbl hLe (hK) (hn8) (hsk) (hsl) (her) (hi0) (hi) (fun H locs ls hS hl => ?_) n0 0 (Nat.zero_add n0) H locs ls hS (lv_sub hl [0, 1, 2, 3, 4, 5, 6, 7, 8, 9] rfl)
    refine lv_iinc (v := nI (j + 1)) (lv' := [(10, .int (nI (j + 1))), (11, .int (nI n0)), (9, .int (nI i)), (8, .int (fJ (gD sz D0) n0 i (j + 1) y0)), (7, .int (nI n0)), (6, .int v6), (5, .int v5), (3, .int v3), (1, .ref (a 0)), (0, .ref z)]) hx hb dL_law_749 hl (k := 1) rfl (by exact nI_1 _) (by decide) rfl (fun ls hl => ?_)
    refine lv_goto (tgt := 696) hx hb dL_law_752 (by decide) ?_
    exact ih (j + 1) (by omega) _ _ _ hS (lv_sub hl [0, 2, 3, 4, 5, 6, 7, 8, 9] rfl)
set_option maxHeartbeats 4000000 in
set_option maxRecDepth 100000 in
theorem law_b6i {p : Program} {l : Launch} {e : Env} {s : State} {mt : MethodId} {z : Nat} {below : List Frame} {meth : Method} {c : Code} {G : GG} {nm : String} {Q : State → Prop} {a ar ac : Nat → Nat} {L : Nat} {xs : Nat → Int32} {m : Nat} {er sk : Nat → Int32} {lg : List (Nat × Int32)} {im : Nat × (Nat → Int32) × (Nat → Int32) × Int32} {un tp kr kc n0 : Nat} {D0 sz ff : Nat → Nat} {v6 v5 v3 : Int32} {y0 : Int32} (X : CX p s mt meth c #[Value.ref z] G wsL_law RL cL_law 16 nm (fun q => s.heap.size ≤ q)) (hX : va_X z L xs s s.heap) (hbl : z < s.heap.size) (hLe : L ≤ 260) (hK : MK m n0 D0) (hn8 : n0 ≤ 8) (hsk : ∀ x, sk x = nI (sz x)) (hsl : ∀ x, sz x < 360) (her : ∀ j, j < n0 → er (D0 j) = nI (ff j) ∧ ff j < 360) (K : ∀ (H : Heap) (locs : List Loc) (ls : Array Slot), StD s G a ar ac (m, er, sk, lg, im, un, tp, kr, kc) H locs → lv_has ls 16 [(9, .int (nI n0)), (8, .int (fI (gD sz D0) n0 n0 y0)), (7, .int (nI n0)), (6, .int v6), (5, .int v5), (3, .int v3), (1, .ref (a 0)), (0, .ref z)] → W p l e room_1 s mt #[Value.ref z] below meth c H locs 46 602 Q (F0 mt 761 ls [])) : ∀ (r i : Nat), i + r = n0 → ∀ (H : Heap) (locs : List Loc) (ls : Array Slot), StD s G a ar ac (m, er, sk, lg, im, un, tp, kr, kc) H locs → lv_has ls 16 [(9, .int (nI i)), (8, .int (fI (gD sz D0) n0 i y0)), (7, .int (nI n0)), (6, .int v6), (5, .int v5), (3, .int v3), (1, .ref (a 0)), (0, .ref z)] → W p l e room_1 s mt #[Value.ref z] below meth c H locs 46 602 Q (F0 mt 686 ls []) := by
  obtain ⟨hx, hb, -⟩ := id X
  intro r
  induction r with
  | zero =>
    intro i e0 H locs ls hS hl
    have e1 : i = n0 := by omega
    revert hS hl
    rw [e1]
    intro hS hl
    refine lv_iload hx hb dL_law_686 (lv_at hl 0 rfl) ?_
    refine lv_iload hx hb dL_law_688 (lv_at hl 2 rfl) ?_
    refine lv_icmp_ge (tgt := 761) hx hb dL_law_690 (by decide) (fun _ => ?_) (fun h => absurd (i_nle (by omega) (by omega) h) (by omega))
    exact K _ _ _ hS (lv_sub hl [0, 1, 2, 3, 4, 5, 6, 7] rfl)
  | succ r ih =>
    intro i e0 H locs ls hS hl
    have hi : i < n0 := by omega
    refine lv_iload hx hb dL_law_686 (lv_at hl 0 rfl) ?_
    refine lv_iload hx hb dL_law_688 (lv_at hl 2 rfl) ?_
    refine lv_icmp_ge (tgt := 761) hx hb dL_law_690 (by decide) (fun h => absurd (i_le (by omega) (by omega) h) (by omega)) (fun _ => ?_)
    refine lv_iconst (v := nI 0) hx hb dL_law_693 (by decide) ?_
    refine lv_istore (lv' := [(10, .int (nI 0)), (9, .int (nI i)), (8, .int (fI (gD sz D0) n0 i y0)), (7, .int (nI n0)), (6, .int v6), (5, .int v5), (3, .int v3), (1, .ref (a 0)), (0, .ref z)]) hx hb dL_law_694 hl (by decide) rfl (fun ls hl => ?_)
    refine law_b6j (y0 := fI (gD sz D0) n0 i y0) X hX hbl hLe (hK) (hn8) (hsk) (hsl) (her) (hi) (fun H locs ls hS hl => ?_) n0 0 (Nat.zero_add n0) H locs ls hS (lv_sub hl [0, 1, 2, 3, 4, 5, 6, 7, 8] rfl)
    refine lv_iinc (v := nI (i + 1)) (lv' := [(9, .int (nI (i + 1))), (10, .int (nI n0)), (8, .int (fI (gD sz D0) n0 (i + 1) y0)), (7, .int (nI n0)), (6, .int v6), (5, .int v5), (3, .int v3), (1, .ref (a 0)), (0, .ref z)]) hx hb dL_law_755 hl (k := 1) rfl (by exact nI_1 _) (by decide) rfl (fun ls hl => ?_)
    refine lv_goto (tgt := 686) hx hb dL_law_758 (by decide) ?_
    exact ih (i + 1) (by omega) _ _ _ hS (lv_sub hl [0, 2, 3, 4, 5, 6, 7, 8] rfl)
set_option maxHeartbeats 4000000 in
set_option maxRecDepth 100000 in
theorem law_b8k {p : Program} {l : Launch} {e : Env} {s : State} {mt : MethodId} {z : Nat} {below : List Frame} {meth : Method} {c : Code} {G : GG} {nm : String} {Q : State → Prop} {a ar ac : Nat → Nat} {L : Nat} {xs : Nat → Int32} {m : Nat} {er sk : Nat → Int32} {lg : List (Nat × Int32)} {im : Nat × (Nat → Int32) × (Nat → Int32) × Int32} {un tp kr kc n0 : Nat} {D0 sz ff : Nat → Nat} {v8 v6 v5 v3 : Int32} {i j : Nat} {y0 : Int32} (X : CX p s mt meth c #[Value.ref z] G wsL_law RL cL_law 16 nm (fun q => s.heap.size ≤ q)) (hX : va_X z L xs s s.heap) (hbl : z < s.heap.size) (hLe : L ≤ 260) (hK : MK m n0 D0) (hn8 : n0 ≤ 8) (hsk : ∀ x, sk x = nI (sz x)) (hsl : ∀ x, sz x < 360) (her : ∀ j, j < n0 → er (D0 j) = nI (ff j) ∧ ff j < 360) (hi0 : i < n0) (hj0 : j < n0) (K : ∀ (H : Heap) (locs : List Loc) (ls : Array Slot), StD s G a ar ac (m, er, sk, lg, im, un, tp, kr, kc) H locs → lv_has ls 16 [(12, .int (nI n0)), (11, .int (nI j)), (10, .int (nI i)), (9, .int (fK (gD sz D0) i j n0 y0)), (7, .int (nI n0)), (8, .int v8), (6, .int v6), (5, .int v5), (3, .int v3), (1, .ref (a 0)), (0, .ref z)] → W p l e room_1 s mt #[Value.ref z] below meth c H locs 46 602 Q (F0 mt 873 ls [])) : ∀ (r k : Nat), k + r = n0 → ∀ (H : Heap) (locs : List Loc) (ls : Array Slot), StD s G a ar ac (m, er, sk, lg, im, un, tp, kr, kc) H locs → lv_has ls 16 [(12, .int (nI k)), (11, .int (nI j)), (10, .int (nI i)), (9, .int (fK (gD sz D0) i j k y0)), (7, .int (nI n0)), (8, .int v8), (6, .int v6), (5, .int v5), (3, .int v3), (1, .ref (a 0)), (0, .ref z)] → W p l e room_1 s mt #[Value.ref z] below meth c H locs 46 602 Q (F0 mt 830 ls []) := by
  obtain ⟨hx, hb, -⟩ := id X
  intro r
  induction r with
  | zero =>
    intro k e0 H locs ls hS hl
    have e1 : k = n0 := by omega
    revert hS hl
    rw [e1]
    intro hS hl
    refine lv_iload hx hb dL_law_830 (lv_at hl 0 rfl) ?_
    refine lv_iload hx hb dL_law_832 (lv_at hl 4 rfl) ?_
    refine lv_icmp_ge (tgt := 873) hx hb dL_law_834 (by decide) (fun _ => ?_) (fun h => absurd (i_nle (by omega) (by omega) h) (by omega))
    exact K _ _ _ hS (lv_sub hl [0, 1, 2, 3, 4, 5, 6, 7, 8, 9, 10] rfl)
  | succ r ih =>
    intro k e0 H locs ls hS hl
    have hi : k < n0 := by omega
    refine lv_iload hx hb dL_law_830 (lv_at hl 0 rfl) ?_
    refine lv_iload hx hb dL_law_832 (lv_at hl 4 rfl) ?_
    refine lv_icmp_ge (tgt := 873) hx hb dL_law_834 (by decide) (fun h => absurd (i_le (by omega) (by omega) h) (by omega)) (fun _ => ?_)
    refine lv_bipush (v := nI 31) hx hb dL_law_837 (by decide) ?_
    refine lv_iload hx hb dL_law_839 (lv_at hl 3 rfl) ?_
    refine lv_imul hx hb dL_law_841 ?_
    refine lv_aload_n hx hb dL_law_842 rfl (lv_at hl 9 rfl) ?_
    refine lv_aload_n hx hb dL_law_843 rfl (lv_at hl 9 rfl) ?_
    refine lv_iload hx hb dL_law_844 (lv_at hl 2 rfl) ?_
    refine r_station  (nI i)  X hS hl.1 (Nat.le_of_ble_eq_true rfl) dL_law_846 (fun H locs hS => ?_)
    refine x_cvi (y := nI (D0 i)) (hK.at hi0) ?_
    refine lv_aload_n hx hb dL_law_849 rfl (lv_at hl 9 rfl) ?_
    refine lv_iload hx hb dL_law_850 (lv_at hl 1 rfl) ?_
    refine r_station  (nI j)  X hS hl.1 (Nat.le_of_ble_eq_true rfl) dL_law_852 (fun H locs hS => ?_)
    refine x_cvi (y := nI (D0 j)) (hK.at hj0) ?_
    refine lv_aload_n hx hb dL_law_855 rfl (lv_at hl 9 rfl) ?_
    refine lv_iload hx hb dL_law_856 (lv_at hl 0 rfl) ?_
    refine r_station  (nI k)  X hS hl.1 (Nat.le_of_ble_eq_true rfl) dL_law_858 (fun H locs hS => ?_)
    refine x_cvi (y := nI (D0 k)) (hK.at hi) ?_
    refine r_closure  (nI (D0 i)) (nI (D0 j)) (nI (D0 k))  X hS hl.1 (Nat.le_of_ble_eq_true rfl) dL_law_861 (fun H locs hS => ?_)
    refine x_cvi (y := gD sz D0 i j k) (cl_v hK hsk hsl her hi0 hj0 hi) ?_
    refine lv_iadd hx hb dL_law_864 ?_
    refine x_cvi (y := fK (gD sz D0) i j (k + 1) y0) (rfl) ?_
    refine lv_istore (lv' := [(9, .int (fK (gD sz D0) i j (k + 1) y0)), (12, .int (nI k)), (11, .int (nI j)), (10, .int (nI i)), (7, .int (nI n0)), (8, .int v8), (6, .int v6), (5, .int v5), (3, .int v3), (1, .ref (a 0)), (0, .ref z)]) hx hb dL_law_865 hl (by decide) rfl (fun ls hl => ?_)
    refine lv_iinc (v := nI (k + 1)) (lv' := [(12, .int (nI (k + 1))), (9, .int (fK (gD sz D0) i j (k + 1) y0)), (11, .int (nI j)), (10, .int (nI i)), (7, .int (nI n0)), (8, .int v8), (6, .int v6), (5, .int v5), (3, .int v3), (1, .ref (a 0)), (0, .ref z)]) hx hb dL_law_867 hl (k := 1) rfl (by exact nI_1 _) (by decide) rfl (fun ls hl => ?_)
    refine lv_goto (tgt := 830) hx hb dL_law_870 (by decide) ?_
    exact ih (k + 1) (by omega) _ _ _ hS (lv_sub hl [0, 2, 3, 1, 4, 5, 6, 7, 8, 9, 10] rfl)
set_option maxHeartbeats 4000000 in
set_option maxRecDepth 100000 in
theorem law_b8j {p : Program} {l : Launch} {e : Env} {s : State} {mt : MethodId} {z : Nat} {below : List Frame} {meth : Method} {c : Code} {G : GG} {nm : String} {Q : State → Prop} {a ar ac : Nat → Nat} {L : Nat} {xs : Nat → Int32} {m : Nat} {er sk : Nat → Int32} {lg : List (Nat × Int32)} {im : Nat × (Nat → Int32) × (Nat → Int32) × Int32} {un tp kr kc n0 : Nat} {D0 sz ff : Nat → Nat} {v8 v6 v5 v3 : Int32} {i : Nat} {y0 : Int32} (X : CX p s mt meth c #[Value.ref z] G wsL_law RL cL_law 16 nm (fun q => s.heap.size ≤ q)) (hX : va_X z L xs s s.heap) (hbl : z < s.heap.size) (hLe : L ≤ 260) (hK : MK m n0 D0) (hn8 : n0 ≤ 8) (hsk : ∀ x, sk x = nI (sz x)) (hsl : ∀ x, sz x < 360) (her : ∀ j, j < n0 → er (D0 j) = nI (ff j) ∧ ff j < 360) (hi0 : i < n0) (K : ∀ (H : Heap) (locs : List Loc) (ls : Array Slot), StD s G a ar ac (m, er, sk, lg, im, un, tp, kr, kc) H locs → lv_has ls 16 [(11, .int (nI n0)), (10, .int (nI i)), (9, .int (fJ (gD sz D0) n0 i n0 y0)), (7, .int (nI n0)), (8, .int v8), (6, .int v6), (5, .int v5), (3, .int v3), (1, .ref (a 0)), (0, .ref z)] → W p l e room_1 s mt #[Value.ref z] below meth c H locs 46 602 Q (F0 mt 879 ls [])) : ∀ (r j : Nat), j + r = n0 → ∀ (H : Heap) (locs : List Loc) (ls : Array Slot), StD s G a ar ac (m, er, sk, lg, im, un, tp, kr, kc) H locs → lv_has ls 16 [(11, .int (nI j)), (10, .int (nI i)), (9, .int (fJ (gD sz D0) n0 i j y0)), (7, .int (nI n0)), (8, .int v8), (6, .int v6), (5, .int v5), (3, .int v3), (1, .ref (a 0)), (0, .ref z)] → W p l e room_1 s mt #[Value.ref z] below meth c H locs 46 602 Q (F0 mt 820 ls []) := by
  obtain ⟨hx, hb, -⟩ := id X
  intro r
  induction r with
  | zero =>
    intro j e0 H locs ls hS hl
    have e1 : j = n0 := by omega
    revert hS hl
    rw [e1]
    intro hS hl
    refine lv_iload hx hb dL_law_820 (lv_at hl 0 rfl) ?_
    refine lv_iload hx hb dL_law_822 (lv_at hl 3 rfl) ?_
    refine lv_icmp_ge (tgt := 879) hx hb dL_law_824 (by decide) (fun _ => ?_) (fun h => absurd (i_nle (by omega) (by omega) h) (by omega))
    exact K _ _ _ hS (lv_sub hl [0, 1, 2, 3, 4, 5, 6, 7, 8, 9] rfl)
  | succ r ih =>
    intro j e0 H locs ls hS hl
    have hi : j < n0 := by omega
    refine lv_iload hx hb dL_law_820 (lv_at hl 0 rfl) ?_
    refine lv_iload hx hb dL_law_822 (lv_at hl 3 rfl) ?_
    refine lv_icmp_ge (tgt := 879) hx hb dL_law_824 (by decide) (fun h => absurd (i_le (by omega) (by omega) h) (by omega)) (fun _ => ?_)
    refine lv_iconst (v := nI 0) hx hb dL_law_827 (by decide) ?_
    refine lv_istore (lv' := [(12, .int (nI 0)), (11, .int (nI j)), (10, .int (nI i)), (9, .int (fJ (gD sz D0) n0 i j y0)), (7, .int (nI n0)), (8, .int v8), (6, .int v6), (5, .int v5), (3, .int v3), (1, .ref (a 0)), (0, .ref z)]) hx hb dL_law_828 hl (by decide) rfl (fun ls hl => ?_)
    refine law_b8k (y0 := fJ (gD sz D0) n0 i j y0) X hX hbl hLe (hK) (hn8) (hsk) (hsl) (her) (hi0) (hi) (fun H locs ls hS hl => ?_) n0 0 (Nat.zero_add n0) H locs ls hS (lv_sub hl [0, 1, 2, 3, 4, 5, 6, 7, 8, 9, 10] rfl)
    refine lv_iinc (v := nI (j + 1)) (lv' := [(11, .int (nI (j + 1))), (12, .int (nI n0)), (10, .int (nI i)), (9, .int (fJ (gD sz D0) n0 i (j + 1) y0)), (7, .int (nI n0)), (8, .int v8), (6, .int v6), (5, .int v5), (3, .int v3), (1, .ref (a 0)), (0, .ref z)]) hx hb dL_law_873 hl (k := 1) rfl (by exact nI_1 _) (by decide) rfl (fun ls hl => ?_)
    refine lv_goto (tgt := 820) hx hb dL_law_876 (by decide) ?_
    exact ih (j + 1) (by omega) _ _ _ hS (lv_sub hl [0, 2, 3, 4, 5, 6, 7, 8, 9, 10] rfl)
set_option maxHeartbeats 4000000 in
set_option maxRecDepth 100000 in
theorem law_b8i {p : Program} {l : Launch} {e : Env} {s : State} {mt : MethodId} {z : Nat} {below : List Frame} {meth : Method} {c : Code} {G : GG} {nm : String} {Q : State → Prop} {a ar ac : Nat → Nat} {L : Nat} {xs : Nat → Int32} {m : Nat} {er sk : Nat → Int32} {lg : List (Nat × Int32)} {im : Nat × (Nat → Int32) × (Nat → Int32) × Int32} {un tp kr kc n0 : Nat} {D0 sz ff : Nat → Nat} {v8 v6 v5 v3 : Int32} {y0 : Int32} (X : CX p s mt meth c #[Value.ref z] G wsL_law RL cL_law 16 nm (fun q => s.heap.size ≤ q)) (hX : va_X z L xs s s.heap) (hbl : z < s.heap.size) (hLe : L ≤ 260) (hK : MK m n0 D0) (hn8 : n0 ≤ 8) (hsk : ∀ x, sk x = nI (sz x)) (hsl : ∀ x, sz x < 360) (her : ∀ j, j < n0 → er (D0 j) = nI (ff j) ∧ ff j < 360) (K : ∀ (H : Heap) (locs : List Loc) (ls : Array Slot), StD s G a ar ac (m, er, sk, lg, im, un, tp, kr, kc) H locs → lv_has ls 16 [(10, .int (nI n0)), (9, .int (fI (gD sz D0) n0 n0 y0)), (7, .int (nI n0)), (8, .int v8), (6, .int v6), (5, .int v5), (3, .int v3), (1, .ref (a 0)), (0, .ref z)] → W p l e room_1 s mt #[Value.ref z] below meth c H locs 46 602 Q (F0 mt 885 ls [])) : ∀ (r i : Nat), i + r = n0 → ∀ (H : Heap) (locs : List Loc) (ls : Array Slot), StD s G a ar ac (m, er, sk, lg, im, un, tp, kr, kc) H locs → lv_has ls 16 [(10, .int (nI i)), (9, .int (fI (gD sz D0) n0 i y0)), (7, .int (nI n0)), (8, .int v8), (6, .int v6), (5, .int v5), (3, .int v3), (1, .ref (a 0)), (0, .ref z)] → W p l e room_1 s mt #[Value.ref z] below meth c H locs 46 602 Q (F0 mt 810 ls []) := by
  obtain ⟨hx, hb, -⟩ := id X
  intro r
  induction r with
  | zero =>
    intro i e0 H locs ls hS hl
    have e1 : i = n0 := by omega
    revert hS hl
    rw [e1]
    intro hS hl
    refine lv_iload hx hb dL_law_810 (lv_at hl 0 rfl) ?_
    refine lv_iload hx hb dL_law_812 (lv_at hl 2 rfl) ?_
    refine lv_icmp_ge (tgt := 885) hx hb dL_law_814 (by decide) (fun _ => ?_) (fun h => absurd (i_nle (by omega) (by omega) h) (by omega))
    exact K _ _ _ hS (lv_sub hl [0, 1, 2, 3, 4, 5, 6, 7, 8] rfl)
  | succ r ih =>
    intro i e0 H locs ls hS hl
    have hi : i < n0 := by omega
    refine lv_iload hx hb dL_law_810 (lv_at hl 0 rfl) ?_
    refine lv_iload hx hb dL_law_812 (lv_at hl 2 rfl) ?_
    refine lv_icmp_ge (tgt := 885) hx hb dL_law_814 (by decide) (fun h => absurd (i_le (by omega) (by omega) h) (by omega)) (fun _ => ?_)
    refine lv_iconst (v := nI 0) hx hb dL_law_817 (by decide) ?_
    refine lv_istore (lv' := [(11, .int (nI 0)), (10, .int (nI i)), (9, .int (fI (gD sz D0) n0 i y0)), (7, .int (nI n0)), (8, .int v8), (6, .int v6), (5, .int v5), (3, .int v3), (1, .ref (a 0)), (0, .ref z)]) hx hb dL_law_818 hl (by decide) rfl (fun ls hl => ?_)
    refine law_b8j (y0 := fI (gD sz D0) n0 i y0) X hX hbl hLe (hK) (hn8) (hsk) (hsl) (her) (hi) (fun H locs ls hS hl => ?_) n0 0 (Nat.zero_add n0) H locs ls hS (lv_sub hl [0, 1, 2, 3, 4, 5, 6, 7, 8, 9] rfl)
    refine lv_iinc (v := nI (i + 1)) (lv' := [(10, .int (nI (i + 1))), (11, .int (nI n0)), (9, .int (fI (gD sz D0) n0 (i + 1) y0)), (7, .int (nI n0)), (8, .int v8), (6, .int v6), (5, .int v5), (3, .int v3), (1, .ref (a 0)), (0, .ref z)]) hx hb dL_law_879 hl (k := 1) rfl (by exact nI_1 _) (by decide) rfl (fun ls hl => ?_)
    refine lv_goto (tgt := 810) hx hb dL_law_882 (by decide) ?_
    exact ih (i + 1) (by omega) _ _ _ hS (lv_sub hl [0, 2, 3, 4, 5, 6, 7, 8, 9] rfl)
