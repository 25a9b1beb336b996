/-! The law: errors, and a slope of skies. -/
set_option maxHeartbeats 4000000 in
set_option maxRecDepth 100000 in
theorem law_b7 {p : Program} {l : Launch} {e : Env} {s : State} {mt : MethodId} {z : Nat} {below : List Frame} {meth : Method} {c : Code} {G : GG} {nm : String} {Q : State → Prop} {a ar ac : Nat → Nat} {L : Nat} {xs : Nat → Int32} {m : Nat} {eI sk : Nat → Int32} {im : Nat × (Nat → Int32) × (Nat → Int32) × Int32} {un kr kc n0 lq : Nat} {D0 : Nat → Nat} {v3 v5 v6 v8 : Int32} (X : CX p s mt meth c #[Value.ref z] G wsL_law RL cL_law 16 nm (fun q => s.heap.size ≤ q)) (hX : va_X z L xs s s.heap) (hbl : z < s.heap.size) (hLe : L ≤ 260) (hK : MK m n0 D0) (hn8 : n0 ≤ 8) (h0 : ∀ j, j < n0 → eI (D0 j) = 0) (K : ∀ (H : Heap) (locs : List Loc) (ls : Array Slot), StD s G a ar ac (m, hE D0 (vB L xs) eI n0, sk, hL D0 (vB L xs) eI n0 n0, im, un, lq + n0, kr, kc) H locs → lv_has ls 16 [(9, .int (nI n0)), (8, .int v8), (7, .int (nI n0)), (6, .int v6), (5, .int v5), (3, .int v3), (1, .ref (a 0)), (0, .ref z)] → W p l e room_1 s mt #[Value.ref z] below meth c H locs 46 602 Q (F0 mt 804 ls [])) : ∀ (r i : Nat), i + r = n0 → ∀ (H : Heap) (locs : List Loc) (ls : Array Slot), StD s G a ar ac (m, hE D0 (vB L xs) eI i, sk, hL D0 (vB L xs) eI i i, im, un, lq + i, kr, kc) H locs → lv_has ls 16 [(9, .int (nI i)), (8, .int v8), (7, .int (nI n0)), (6, .int v6), (5, .int v5), (3, .int v3), (1, .ref (a 0)), (0, .ref z)] → W p l e room_1 s mt #[Value.ref z] below meth c H locs 46 602 Q (F0 mt 764 ls []) := by
  obtain ⟨hx, hb, -⟩ := id X
  intro r
  induction r with
  | zero =>
    intro i e0 H locs ls hS hl
    have e1 : i = n0 := by omega
    revert hS hl
    rw [e1]
    intro hS hl
    refine lv_iload hx hb dL_law_764 (lv_at hl 0 rfl) ?_
    refine lv_iload hx hb dL_law_766 (lv_at hl 2 rfl) ?_
    refine lv_icmp_ge (tgt := 804) hx hb dL_law_768 (by decide) (fun _ => ?_) (fun h => absurd (i_nle (by omega) (by omega) h) (by omega))
    exact K _ _ _ hS (lv_sub hl [0, 1, 2, 3, 4, 5, 6, 7] rfl)
  | succ r ih =>
    intro i e0 H locs ls hS hl
    have hi : i < n0 := by omega
    refine lv_iload hx hb dL_law_764 (lv_at hl 0 rfl) ?_
    refine lv_iload hx hb dL_law_766 (lv_at hl 2 rfl) ?_
    refine lv_icmp_ge (tgt := 804) hx hb dL_law_768 (by decide) (fun h => absurd (i_le (by omega) (by omega) h) (by omega)) (fun _ => ?_)
    refine lv_aload_n hx hb dL_law_771 rfl (lv_at hl 6 rfl) ?_
    refine lv_aload_n hx hb dL_law_772 rfl (lv_at hl 6 rfl) ?_
    refine lv_iload hx hb dL_law_773 (lv_at hl 0 rfl) ?_
    refine r_station  (nI i)  X hS hl.1 (Nat.le_of_ble_eq_true rfl) dL_law_775 (fun H locs hS => ?_)
    refine x_cvi (y := nI (D0 i)) (hK.at hi) ?_
    refine lv_aload_n hx hb dL_law_778 rfl (lv_at hl 7 rfl) ?_
    refine lv_iload hx hb dL_law_779 (lv_at hl 0 rfl) ?_
    refine lv_bipush (v := nI 40) hx hb dL_law_781 (by decide) ?_
    refine lv_iadd hx hb dL_law_783 ?_
    refine x_cvi (y := nI (i + 40)) (nI_add _ _) ?_
    refine lv_sipush (v := nI 360) hx hb dL_law_784 (by decide) ?_
    refine r_cell (i + 40) 360 (by omega) (by omega) (by omega) X hX hbl hLe hS hl.1 (Nat.le_of_ble_eq_true rfl) dL_law_787 (fun H locs hS => ?_)
    refine r_error  (D0 i) (nI (cN L xs (i + 40) 360)) (hK.le hi) (hK.tb hi) (inP_nI (cN_lt (by decide))) X hS hl.1 (Nat.le_of_ble_eq_true rfl) dL_law_790 (fun H locs hS => ?_)
    have hS : StD s G a ar ac (m, hE D0 (vB L xs) eI (i + 1), sk, hL D0 (vB L xs) eI (i + 1) (i + 1), im, un, lq + (i + 1), kr, kc) H locs := by
      have q1 : bcm m (D0 i) (nI (cN L xs (i + 40) 360)) = m := bcm_same (hK.tb hi) (vB_ne (L := L) (xs := xs) i)
      rw [q1, hL_new (S := D0) (v := vB L xs) (e0 := eI) (c := i) (k := i) (by omega)] at hS
      exact hS
    refine x_cvi (y := nI 0) (by rw [hE_at hK hi i (by omega), if_neg (Nat.lt_irrefl i), h0 i hi]; rfl) ?_
    refine lv_if_eq (tgt := 798) hx hb dL_law_793 (by decide) (fun _ => ?_) (fun h => absurd rfl h)
    refine lv_iinc (v := nI (i + 1)) (lv' := [(9, .int (nI (i + 1))), (8, .int v8), (7, .int (nI n0)), (6, .int v6), (5, .int v5), (3, .int v3), (1, .ref (a 0)), (0, .ref z)]) hx hb dL_law_798 hl (k := 0) rfl (by exact nI_1 _) (by decide) rfl (fun ls hl => ?_)
    refine lv_goto (tgt := 764) hx hb dL_law_801 (by decide) ?_
    exact ih (i + 1) (by omega) _ _ _ hS (lv_sub hl [0, 1, 2, 3, 4, 5, 6, 7] rfl)
set_option maxHeartbeats 4000000 in
set_option maxRecDepth 100000 in
theorem law_b10 {p : Program} {l : Launch} {e : Env} {s : State} {mt : MethodId} {z : Nat} {below : List Frame} {meth : Method} {c : Code} {G : GG} {nm : String} {Q : State → Prop} {a ar ac : Nat → Nat} {L : Nat} {xs : Nat → Int32} {m : Nat} {er : Nat → Int32} {lg : List (Nat × Int32)} {im : Nat × (Nat → Int32) × (Nat → Int32) × Int32} {un t0 kr kc lq sl : Nat} {sz : Nat → Nat} {v3 v6 v7 : Int32} (X : CX p s mt meth c #[Value.ref z] G wsL_law RL cL_law 16 nm (fun q => s.heap.size ≤ q)) (hX : va_X z L xs s s.heap) (hbl : z < s.heap.size) (hLe : L ≤ 260) (hl20 : lq ≤ 20) (hsl6 : sl < 360) (hsl : ∀ x, sz x < 360) (K : ∀ (H : Heap) (locs : List Loc) (ls : Array Slot), StD s G a ar ac (m, er, fun x => nI (sF (fSl sl) sz (lq + 1) x), lg, im, un, t0 + lq, kr, kc) H locs → lv_has ls 16 [(11, .int (nI (lq + 1))), (10, .int (nI sl)), (7, .int v7), (6, .int v6), (5, .int (nI lq)), (3, .int v3), (1, .ref (a 0)), (0, .ref z)] → W p l e room_1 s mt #[Value.ref z] below meth c H locs 46 602 Q (F0 mt 965 ls [])) : ∀ (r j : Nat), j + r = lq → ∀ (H : Heap) (locs : List Loc) (ls : Array Slot), StD s G a ar ac (m, er, fun x => nI (sF (fSl sl) sz (j + 1) x), lg, im, un, t0 + j, kr, kc) H locs → lv_has ls 16 [(11, .int (nI (j + 1))), (10, .int (nI sl)), (7, .int v7), (6, .int v6), (5, .int (nI lq)), (3, .int v3), (1, .ref (a 0)), (0, .ref z)] → W p l e room_1 s mt #[Value.ref z] below meth c H locs 46 602 Q (F0 mt 932 ls []) := by
  obtain ⟨hx, hb, -⟩ := id X
  intro r
  induction r with
  | zero =>
    intro j e0 H locs ls hS hl
    have e1 : j = lq := by omega
    revert hS hl
    rw [e1]
    intro hS hl
    refine lv_iload hx hb dL_law_932 (lv_at hl 0 rfl) ?_
    refine lv_iload hx hb dL_law_934 (lv_at hl 4 rfl) ?_
    refine lv_icmp_gt (tgt := 965) hx hb dL_law_936 (by decide) (fun _ => ?_) (fun h => absurd (i_nlt (by omega) (by omega) h) (by omega))
    exact K _ _ _ hS (lv_sub hl [0, 1, 2, 3, 4, 5, 6, 7] rfl)
  | succ r ih =>
    intro j e0 H locs ls hS hl
    have hi : j < lq := by omega
    have hmul : sl * (j + 1) < 2 ^ 31 := Nat.lt_of_le_of_lt (Nat.mul_le_mul (Nat.le_of_lt hsl6) (show j + 1 ≤ 20 by omega)) (by decide)
    refine lv_iload hx hb dL_law_932 (lv_at hl 0 rfl) ?_
    refine lv_iload hx hb dL_law_934 (lv_at hl 4 rfl) ?_
    refine lv_icmp_gt (tgt := 965) hx hb dL_law_936 (by decide) (fun h => absurd (i_lt (by omega) (by omega) h) (by omega)) (fun _ => ?_)
    refine lv_aload_n hx hb dL_law_939 rfl (lv_at hl 6 rfl) ?_
    refine lv_iload hx hb dL_law_940 (lv_at hl 0 rfl) ?_
    refine lv_iload hx hb dL_law_942 (lv_at hl 1 rfl) ?_
    refine lv_iload hx hb dL_law_944 (lv_at hl 0 rfl) ?_
    refine lv_imul hx hb dL_law_946 ?_
    refine x_cvi (y := nI (sl * (j + 1))) (pk_mul _ _) ?_
    refine lv_sipush (v := nI 360) hx hb dL_law_947 (by decide) ?_
    refine lv_irem hx hb dL_law_950 (by decide) ?_
    refine x_cvi (y := nI ((sl * (j + 1)) % 360)) (pk_rem (hmul) (by omega) (by omega)) ?_
    refine r_sky  (j + 1) (nI ((sl * (j + 1)) % 360)) (by omega) (by omega) (inP_nI (Nat.mod_lt _ (by decide))) X hS hl.1 (Nat.le_of_ble_eq_true rfl) dL_law_951 (fun H locs hS => ?_)
    have hS : StD s G a ar ac (m, er, fun x => nI (sF (fSl sl) sz (j + 1 + 1) x), lg, im, un, t0 + (j + 1), kr, kc) H locs := by
      rw [← sF_s (f := fSl sl) (g := sz) (d := j + 1) (by omega)]
      exact hS
    refine x_cvi (y := nI (sz (j + 1))) (by show nI (sF _ sz (j + 1) (j + 1)) = _; rw [sF_at]) ?_
    refine lv_if_ge (tgt := 959) hx hb dL_law_954 (by decide) (fun _ => ?_) (fun h => absurd (nI_pos' (by have := hsl (j + 1); omega)) h)
    refine lv_iinc (v := nI (j + 1 + 1)) (lv' := [(11, .int (nI (j + 1 + 1))), (10, .int (nI sl)), (7, .int v7), (6, .int v6), (5, .int (nI lq)), (3, .int v3), (1, .ref (a 0)), (0, .ref z)]) hx hb dL_law_959 hl (k := 0) rfl (by exact nI_1 _) (by decide) rfl (fun ls hl => ?_)
    refine lv_goto (tgt := 932) hx hb dL_law_962 (by decide) ?_
    exact ih (j + 1) (by omega) _ _ _ hS (lv_sub hl [0, 1, 2, 3, 4, 5, 6, 7] rfl)
set_option maxHeartbeats 4000000 in
set_option maxRecDepth 100000 in
theorem law_b11 {p : Program} {l : Launch} {e : Env} {s : State} {mt : MethodId} {z : Nat} {below : List Frame} {meth : Method} {c : Code} {G : GG} {nm : String} {Q : State → Prop} {a ar ac : Nat → Nat} {L : Nat} {xs : Nat → Int32} {m : Nat} {er sk : Nat → Int32} {lg : List (Nat × Int32)} {im : Nat × (Nat → Int32) × (Nat → Int32) × Int32} {un tp kr kc n0 lq b0 sl : Nat} {D0 sz ff : Nat → Nat} {v3 v6 : Int32} (X : CX p s mt meth c #[Value.ref z] G wsL_law RL cL_law 16 nm (fun q => s.heap.size ≤ q)) (hX : va_X z L xs s s.heap) (hbl : z < s.heap.size) (hLe : L ≤ 260) (hD : DD m n0 lq b0 D0) (hsk : ∀ x, sk x = nI (sz x)) (hsl : ∀ x, sz x < 360) (her : ∀ j, j < n0 → er (D0 j) = nI (ff j) ∧ ff j < 360) (hsz : ∀ d, 1 ≤ d → d ≤ lq → sz d = sl * d % 360) (K : ∀ (H : Heap) (locs : List Loc) (ls : Array Slot), StD s G a ar ac (m, er, sk, lg, im, un, tp, kr, kc) H locs → lv_has ls 16 [(11, .int (nI ((n0 - 2) + 2))), (7, .int (nI n0)), (6, .int v6), (5, .int (nI lq)), (3, .int v3), (1, .ref (a 0)), (0, .ref z)] → W p l e room_1 s mt #[Value.ref z] below meth c H locs 46 602 Q (F0 mt 1032 ls [])) : ∀ (r j : Nat), j + r = n0 - 2 → ∀ (H : Heap) (locs : List Loc) (ls : Array Slot), StD s G a ar ac (m, er, sk, lg, im, un, tp, kr, kc) H locs → lv_has ls 16 [(11, .int (nI (j + 2))), (7, .int (nI n0)), (6, .int v6), (5, .int (nI lq)), (3, .int v3), (1, .ref (a 0)), (0, .ref z)] → W p l e room_1 s mt #[Value.ref z] below meth c H locs 46 602 Q (F0 mt 968 ls []) := by
  obtain ⟨hx, hb, -⟩ := id X
  obtain ⟨hK, hre, hsp, hx0, hxn, hn3, hn8, hl3, hl20, hbl6⟩ := id hD
  intro r
  induction r with
  | zero =>
    intro j e0 H locs ls hS hl
    have e1 : j = n0 - 2 := by omega
    revert hS hl
    rw [e1]
    intro hS hl
    refine lv_iload hx hb dL_law_968 (lv_at hl 0 rfl) ?_
    refine lv_iload hx hb dL_law_970 (lv_at hl 1 rfl) ?_
    refine lv_icmp_ge (tgt := 1032) hx hb dL_law_972 (by decide) (fun _ => ?_) (fun h => absurd (i_nle (by omega) (by omega) h) (by omega))
    exact K _ _ _ hS (lv_sub hl [0, 1, 2, 3, 4, 5, 6] rfl)
  | succ r ih =>
    intro j e0 H locs ls hS hl
    have hi : j < n0 - 2 := by omega
    have hj2 : j + 2 < n0 := by omega
    have hj1 : j + 1 < n0 := by omega
    have hz0 : 0 < n0 := by omega
    have hz1 : 1 < n0 := by omega
    refine lv_iload hx hb dL_law_968 (lv_at hl 0 rfl) ?_
    refine lv_iload hx hb dL_law_970 (lv_at hl 1 rfl) ?_
    refine lv_icmp_ge (tgt := 1032) hx hb dL_law_972 (by decide) (fun h => absurd (i_le (by omega) (by omega) h) (by omega)) (fun _ => ?_)
    refine lv_aload_n hx hb dL_law_975 rfl (lv_at hl 5 rfl) ?_
    refine lv_aload_n hx hb dL_law_976 rfl (lv_at hl 5 rfl) ?_
    refine lv_iload hx hb dL_law_977 (lv_at hl 0 rfl) ?_
    refine r_station  (nI (j + 2))  X hS hl.1 (Nat.le_of_ble_eq_true rfl) dL_law_979 (fun H locs hS => ?_)
    refine x_cvi (y := nI (D0 (j + 2))) (hK.at hj2) ?_
    refine lv_aload_n hx hb dL_law_982 rfl (lv_at hl 5 rfl) ?_
    refine lv_iconst (v := nI 0) hx hb dL_law_983 (by decide) ?_
    refine r_station  (nI 0)  X hS hl.1 (Nat.le_of_ble_eq_true rfl) dL_law_984 (fun H locs hS => ?_)
    refine x_cvi (y := nI (D0 0)) (hK.at hz0) ?_
    refine lv_aload_n hx hb dL_law_987 rfl (lv_at hl 5 rfl) ?_
    refine lv_iconst (v := nI 1) hx hb dL_law_988 (by decide) ?_
    refine r_station  (nI 1)  X hS hl.1 (Nat.le_of_ble_eq_true rfl) dL_law_989 (fun H locs hS => ?_)
    refine x_cvi (y := nI (D0 1)) (hK.at hz1) ?_
    refine r_closure  (nI (D0 (j + 2))) (nI (D0 0)) (nI (D0 1))  X hS hl.1 (Nat.le_of_ble_eq_true rfl) dL_law_992 (fun H locs hS => ?_)
    refine x_cvi (y := nI 0) (by rw [cl_v hK hsk hsl her hj2 hz0 hz1, cv_rot, cv_sl hsz (hK.2.2.2.1 0 1 (by omega) hz1) (hK.2.2.2.1 1 (j + 2) (by omega) hj2) (by rw [hx0]; exact hD.up hj2)]; rfl) ?_
    refine lv_if_ne (tgt := 1024) hx hb dL_law_995 (by decide) (fun h => absurd rfl h) (fun _ => ?_)
    refine lv_aload_n hx hb dL_law_998 rfl (lv_at hl 5 rfl) ?_
    refine lv_aload_n hx hb dL_law_999 rfl (lv_at hl 5 rfl) ?_
    refine lv_iconst (v := nI 0) hx hb dL_law_1000 (by decide) ?_
    refine r_station  (nI 0)  X hS hl.1 (Nat.le_of_ble_eq_true rfl) dL_law_1001 (fun H locs hS => ?_)
    refine x_cvi (y := nI (D0 0)) (hK.at hz0) ?_
    refine lv_aload_n hx hb dL_law_1004 rfl (lv_at hl 5 rfl) ?_
    refine lv_iload hx hb dL_law_1005 (lv_at hl 0 rfl) ?_
    refine lv_iconst (v := nI 1) hx hb dL_law_1007 (by decide) ?_
    refine lv_isub hx hb dL_law_1008 ?_
    refine x_cvi (y := nI (j + 2 - 1)) (pk_sub (by omega)) ?_
    refine x_cvi (y := nI (j + 1)) (rfl) ?_
    refine r_station  (nI (j + 1))  X hS hl.1 (Nat.le_of_ble_eq_true rfl) dL_law_1009 (fun H locs hS => ?_)
    refine x_cvi (y := nI (D0 (j + 1))) (hK.at hj1) ?_
    refine lv_aload_n hx hb dL_law_1012 rfl (lv_at hl 5 rfl) ?_
    refine lv_iload hx hb dL_law_1013 (lv_at hl 0 rfl) ?_
    refine r_station  (nI (j + 2))  X hS hl.1 (Nat.le_of_ble_eq_true rfl) dL_law_1015 (fun H locs hS => ?_)
    refine x_cvi (y := nI (D0 (j + 2))) (hK.at hj2) ?_
    refine r_closure  (nI (D0 0)) (nI (D0 (j + 1))) (nI (D0 (j + 2)))  X hS hl.1 (Nat.le_of_ble_eq_true rfl) dL_law_1018 (fun H locs hS => ?_)
    refine x_cvi (y := nI 0) (by rw [cl_v hK hsk hsl her hz0 hj1 hj2, cv_sl hsz (hK.2.2.2.1 0 (j + 1) (by omega) hj1) (hK.2.2.2.1 (j + 1) (j + 2) (by omega) hj2) (by rw [hx0]; exact hD.up hj2)]; rfl) ?_
    refine lv_if_eq (tgt := 1026) hx hb dL_law_1021 (by decide) (fun _ => ?_) (fun h => absurd rfl h)
    refine lv_iinc (v := nI (j + 2 + 1)) (lv' := [(11, .int (nI (j + 2 + 1))), (7, .int (nI n0)), (6, .int v6), (5, .int (nI lq)), (3, .int v3), (1, .ref (a 0)), (0, .ref z)]) hx hb dL_law_1026 hl (k := 0) rfl (by exact nI_1 _) (by decide) rfl (fun ls hl => ?_)
    refine lv_goto (tgt := 968) hx hb dL_law_1029 (by decide) ?_
    exact ih (j + 1) (by omega) _ _ _ hS (lv_sub hl [0, 1, 2, 3, 4, 5, 6] rfl)
