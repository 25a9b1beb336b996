/-! The law: dishes by a cover; skies, errors, closures. -/
def zN : Nat → Nat := fun _ => 0
def fSk (L : Nat) (xs : Nat → Int32) : Nat → Nat := fun d => cN L xs (d + 10) 360
def fEr (L : Nat) (xs : Nat → Int32) : Nat → Nat := fun i => cN L xs (i + 40) 360
def vB (L : Nat) (xs : Nat → Int32) : Nat → Int32 := fun i => nI (cN L xs (i + 40) 360)
def fSl (sl : Nat) : Nat → Nat := fun d => sl * d % 360
def gD (sz D0 : Nat → Nat) : Nat → Nat → Nat → Int32 := fun i j k => cV sz (D0 i) (D0 j) (D0 k)
theorem vB_ne {L : Nat} {xs : Nat → Int32} (i : Nat) : vB L xs i ≠ -6 := nI_n6 (by have := cN_lt (L := L) (xs := xs) (k := i + 40) (n := 360) (by decide); omega)
theorem DD.up {m n l b : Nat} {D0 : Nat → Nat} (h : DD m n l b D0) {i : Nat} (hi : i < n) : D0 i ≤ b + l := by
  obtain ⟨hK, -, -, -, hxn, h3, -⟩ := h
  rcases Nat.lt_or_ge i (n - 1) with q | q
  · have := hK.2.2.2.1 i (n - 1) q (by omega)
    omega
  · rw [show i = n - 1 by omega, hxn]
    exact Nat.le_refl _
set_option maxHeartbeats 4000000 in
set_option maxRecDepth 100000 in
theorem law_b4 {p : Program} {l : Launch} {e : Env} {s : State} {mt : MethodId} {z : Nat} {below : List Frame} {meth : Method} {c : Code} {G : GG} {nm : String} {Q : State → Prop} {a ar ac : Nat → Nat} {L : Nat} {xs : Nat → Int32} {m : Nat} {er sk : Nat → Int32} {lg : List (Nat × Int32)} {im : Nat × (Nat → Int32) × (Nat → Int32) × Int32} {un m0 n0 lq b0 : Nat} {D0 : Nat → Nat} (X : CX p s mt meth c #[Value.ref z] G wsL_law RL cL_law 16 nm (fun q => s.heap.size ≤ q)) (hX : va_X z L xs s s.heap) (hbl : z < s.heap.size) (hLe : L ≤ 260) (hlq : 3 + cN L xs 1 18 = lq) (hb0 : cN L xs 2 (61 - lq) = b0) (hm0 : (resT 1 lq).2.2.2 * 2 ^ b0 = m0) (hn0 : dueC lq = n0) (hD : DD m0 n0 lq b0 D0) (K : ∀ (H : Heap) (locs : List Loc) (ls : Array Slot), StD s G a ar ac (m0, fa_fill (stE m0) er 61, sk, [], im, un, 0, 252, 2097150) H locs → lv_has ls 16 [(8, .int (nI 1)), (7, .int (nI n0)), (6, .int (nI b0)), (5, .int (nI lq)), (3, .int (nI 173631)), (1, .ref (a 0)), (0, .ref z)] → W p l e room_1 s mt #[Value.ref z] below meth c H locs 46 602 Q (F0 mt 644 ls [])) {H : Heap} {locs : List Loc} {ls : Array Slot} (hS : StD s G a ar ac (m, er, sk, lg, im, un, 0, 252, 2097150) H locs) (hl : lv_has ls 16 [(3, .int (nI 173631)), (1, .ref (a 0)), (0, .ref z)]) : W p l e room_1 s mt #[Value.ref z] below meth c H locs 46 602 Q (F0 mt 505 ls []) := by
  obtain ⟨hx, hb, -⟩ := id X
  obtain ⟨hK, hre, hsp, hx0, hxn, hn3, hn8, hl3, hl20, hbl6⟩ := id hD
  refine lv_aload_n hx hb dL_law_505 rfl (lv_at hl 1 rfl) ?_
  refine lv_iconst (v := nI 1) hx hb dL_law_506 (by decide) ?_
  refine r_told  (nI 1)  X hS hl.1 (Nat.le_of_ble_eq_true rfl) dL_law_507 (fun H locs hS => ?_)
  refine x_cvi (y := nI 26) (by rw [td_1, nI_add, kcF_e.2.1]) ?_
  refine lv_bipush (v := nI 26) hx hb dL_law_510 (by decide) ?_
  refine lv_icmp_ne (tgt := 545) hx hb dL_law_512 (by decide) (fun h => absurd rfl h) (fun _ => ?_)
  refine lv_aload_n hx hb dL_law_515 rfl (lv_at hl 1 rfl) ?_
  refine lv_iconst (v := nI 2) hx hb dL_law_516 (by decide) ?_
  refine r_told  (nI 2)  X hS hl.1 (Nat.le_of_ble_eq_true rfl) dL_law_517 (fun H locs hS => ?_)
  refine x_cvi (y := nI 173631) (by rw [td_2, tt_r (by decide) (by decide), tt_c (by decide), kcF_e.2.2.1, kcF_e.2.2.2.1, nI_add]) ?_
  refine lv_iload_n hx hb dL_law_520 rfl (lv_at hl 0 rfl) ?_
  refine lv_icmp_ne (tgt := 545) hx hb dL_law_521 (by decide) (fun h => absurd rfl h) (fun _ => ?_)
  refine lv_aload_n hx hb dL_law_524 rfl (lv_at hl 1 rfl) ?_
  refine lv_iconst (v := nI 5) hx hb dL_law_525 (by decide) ?_
  refine r_told  (nI 5)  X hS hl.1 (Nat.le_of_ble_eq_true rfl) dL_law_526 (fun H locs hS => ?_)
  refine x_cvi (y := nI 2097150) (td_5) ?_
  refine lv_ldc (v := 2097150) hx hb X.2.2.2.1 (X.2.2.2.2.1 _ (by decide +kernel)) dL_law_529 ?_
  refine x_cvi (y := nI 2097150) (rfl) ?_
  refine lv_icmp_ne (tgt := 545) hx hb dL_law_531 (by decide) (fun h => absurd rfl h) (fun _ => ?_)
  refine lv_aload_n hx hb dL_law_534 rfl (lv_at hl 1 rfl) ?_
  refine lv_iconst (v := nI 4) hx hb dL_law_535 (by decide) ?_
  refine r_told  (nI 4)  X hS hl.1 (Nat.le_of_ble_eq_true rfl) dL_law_536 (fun H locs hS => ?_)
  refine x_cvi (y := nI 252) (td_4) ?_
  refine lv_sipush (v := nI 252) hx hb dL_law_539 (by decide) ?_
  refine lv_icmp_eq (tgt := 547) hx hb dL_law_542 (by decide) (fun _ => ?_) (fun h => absurd rfl h)
  refine lv_iconst (v := nI 3) hx hb dL_law_547 (by decide) ?_
  refine lv_aload_n hx hb dL_law_548 rfl (lv_at hl 2 rfl) ?_
  refine lv_iconst (v := nI 1) hx hb dL_law_549 (by decide) ?_
  refine lv_bipush (v := nI 18) hx hb dL_law_550 (by decide) ?_
  refine r_cell 1 18 (by omega) (by omega) (by omega) X hX hbl hLe hS hl.1 (Nat.le_of_ble_eq_true rfl) dL_law_552 (fun H locs hS => ?_)
  refine lv_iadd hx hb dL_law_555 ?_
  refine x_cvi (y := nI (3 + (cN L xs 1 18))) (nI_add _ _) ?_
  refine x_cvi (y := nI lq) (congrArg nI hlq) ?_
  refine lv_istore (lv' := [(5, .int (nI lq)), (3, .int (nI 173631)), (1, .ref (a 0)), (0, .ref z)]) hx hb dL_law_556 hl (by decide) rfl (fun ls hl => ?_)
  refine lv_aload_n hx hb dL_law_558 rfl (lv_at hl 3 rfl) ?_
  refine lv_iconst (v := nI 2) hx hb dL_law_559 (by decide) ?_
  refine lv_bipush (v := nI 61) hx hb dL_law_560 (by decide) ?_
  refine lv_iload hx hb dL_law_562 (lv_at hl 0 rfl) ?_
  refine lv_isub hx hb dL_law_564 ?_
  refine x_cvi (y := nI (61 - lq)) (pk_sub (by omega)) ?_
  refine r_cell 2 (61 - lq) (by omega) (by omega) (by omega) X hX hbl hLe hS hl.1 (Nat.le_of_ble_eq_true rfl) dL_law_565 (fun H locs hS => ?_)
  refine x_cvi (y := nI b0) (congrArg nI hb0) ?_
  refine lv_istore (lv' := [(6, .int (nI b0)), (5, .int (nI lq)), (3, .int (nI 173631)), (1, .ref (a 0)), (0, .ref z)]) hx hb dL_law_568 hl (by decide) rfl (fun ls hl => ?_)
  refine lv_aload_n hx hb dL_law_570 rfl (lv_at hl 3 rfl) ?_
  refine lv_iconst (v := nI 1) hx hb dL_law_571 (by decide) ?_
  refine lv_iload hx hb dL_law_572 (lv_at hl 1 rfl) ?_
  refine lv_iload hx hb dL_law_574 (lv_at hl 0 rfl) ?_
  refine r_stand  lq b0 (by omega) (hl20) (by omega) (by rw [resT_c (by omega) hl20, (cov_n lq (by omega) hl3).2.1]; omega) X hS hl.1 (Nat.le_of_ble_eq_true rfl) dL_law_576 (fun H locs hS => ?_)
  have hS : StD s G a ar ac (m0, fa_fill (stE m0) er 61, sk, [], im, un, 0, 252, 2097150) H locs := by
    rw [hm0, kc_or lq (by omega) (by omega)] at hS
    exact hS
  refine x_cvi (y := nI n0) (by rw [hm0, hK.2.1]) ?_
  refine lv_istore (lv' := [(7, .int (nI n0)), (6, .int (nI b0)), (5, .int (nI lq)), (3, .int (nI 173631)), (1, .ref (a 0)), (0, .ref z)]) hx hb dL_law_579 hl (by decide) rfl (fun ls hl => ?_)
  refine lv_iload hx hb dL_law_581 (lv_at hl 0 rfl) ?_
  refine lv_aload_n hx hb dL_law_583 rfl (lv_at hl 4 rfl) ?_
  refine lv_iload hx hb dL_law_584 (lv_at hl 2 rfl) ?_
  refine lv_iconst (v := nI 0) hx hb dL_law_586 (by decide) ?_
  refine r_cover  lq (nI 0) (by omega) (hl20) (by decide) X hS hl.1 (Nat.le_of_ble_eq_true rfl) dL_law_587 (fun H locs hS => ?_)
  have hS : StD s G a ar ac (m0, fa_fill (stE m0) er 61, sk, [], im, un, 0, 252, 2097150) H locs := by
    rw [kc_or lq (by omega) (by omega)] at hS
    exact hS
  refine x_cvi (y := nI n0) (by rw [ans_c (by omega) hl20, ← hn0]; exact (cov_q lq (by omega) (by omega)).1) ?_
  refine lv_icmp_ne (tgt := 639) hx hb dL_law_590 (by decide) (fun h => absurd rfl h) (fun _ => ?_)
  refine lv_aload_n hx hb dL_law_593 rfl (lv_at hl 4 rfl) ?_
  refine lv_iconst (v := nI 2) hx hb dL_law_594 (by decide) ?_
  refine r_facts  (nI 2)  X hS hl.1 (Nat.le_of_ble_eq_true rfl) dL_law_595 (fun H locs hS => ?_)
  refine x_cvi (y := nI lq) (by rw [fa_2, hre]) ?_
  refine lv_iload hx hb dL_law_598 (lv_at hl 2 rfl) ?_
  refine lv_icmp_ne (tgt := 639) hx hb dL_law_600 (by decide) (fun h => absurd rfl h) (fun _ => ?_)
  refine lv_aload_n hx hb dL_law_603 rfl (lv_at hl 4 rfl) ?_
  refine lv_iconst (v := nI 1) hx hb dL_law_604 (by decide) ?_
  refine r_facts  (nI 1)  X hS hl.1 (Nat.le_of_ble_eq_true rfl) dL_law_605 (fun H locs hS => ?_)
  refine x_cvi (y := nI lq) (by rw [fa_1, hsp]) ?_
  refine lv_iload hx hb dL_law_608 (lv_at hl 2 rfl) ?_
  refine lv_icmp_ne (tgt := 639) hx hb dL_law_610 (by decide) (fun h => absurd rfl h) (fun _ => ?_)
  refine lv_aload_n hx hb dL_law_613 rfl (lv_at hl 4 rfl) ?_
  refine lv_iconst (v := nI 0) hx hb dL_law_614 (by decide) ?_
  refine r_station  (nI 0)  X hS hl.1 (Nat.le_of_ble_eq_true rfl) dL_law_615 (fun H locs hS => ?_)
  refine x_cvi (y := nI b0) (by rw [hK.at (by omega), hx0]) ?_
  refine lv_iload hx hb dL_law_618 (lv_at hl 1 rfl) ?_
  refine lv_icmp_ne (tgt := 639) hx hb dL_law_620 (by decide) (fun h => absurd rfl h) (fun _ => ?_)
  refine lv_aload_n hx hb dL_law_623 rfl (lv_at hl 4 rfl) ?_
  refine lv_iload hx hb dL_law_624 (lv_at hl 0 rfl) ?_
  refine lv_iconst (v := nI 1) hx hb dL_law_626 (by decide) ?_
  refine lv_isub hx hb dL_law_627 ?_
  refine x_cvi (y := nI (n0 - 1)) (pk_sub (by omega)) ?_
  refine r_station  (nI (n0 - 1))  X hS hl.1 (Nat.le_of_ble_eq_true rfl) dL_law_628 (fun H locs hS => ?_)
  refine x_cvi (y := nI (b0 + lq)) (by rw [hK.at (by omega), hxn]) ?_
  refine lv_iload hx hb dL_law_631 (lv_at hl 1 rfl) ?_
  refine lv_iload hx hb dL_law_633 (lv_at hl 2 rfl) ?_
  refine lv_iadd hx hb dL_law_635 ?_
  refine x_cvi (y := nI (b0 + lq)) (nI_add _ _) ?_
  refine lv_icmp_eq (tgt := 641) hx hb dL_law_636 (by decide) (fun _ => ?_) (fun h => absurd rfl h)
  refine lv_iconst (v := nI 1) hx hb dL_law_641 (by decide) ?_
  refine lv_istore (lv' := [(8, .int (nI 1)), (7, .int (nI n0)), (6, .int (nI b0)), (5, .int (nI lq)), (3, .int (nI 173631)), (1, .ref (a 0)), (0, .ref z)]) hx hb dL_law_642 hl (by decide) rfl (fun ls hl => ?_)
  exact K _ _ _ hS (lv_sub hl [0, 1, 2, 3, 4, 5, 6] rfl)
set_option maxHeartbeats 4000000 in
set_option maxRecDepth 100000 in
theorem law_b5 {p : Program} {l : Launch} {e : Env} {s : State} {mt : MethodId} {z : Nat} {below : List Frame} {meth : Method} {c : Code} {G : GG} {nm : String} {Q : State → Prop} {a ar ac : Nat → Nat} {L : Nat} {xs : Nat → Int32} {m : Nat} {er : Nat → Int32} {lg : List (Nat × Int32)} {im : Nat × (Nat → Int32) × (Nat → Int32) × Int32} {un kr kc n0 lq b0 : Nat} (X : CX p s mt meth c #[Value.ref z] G wsL_law RL cL_law 16 nm (fun q => s.heap.size ≤ q)) (hX : va_X z L xs s s.heap) (hbl : z < s.heap.size) (hLe : L ≤ 260) (hl20 : lq ≤ 20) (K : ∀ (H : Heap) (locs : List Loc) (ls : Array Slot), StD s G a ar ac (m, er, fun x => nI (sF (fSk L xs) zN (lq + 1) x), lg, im, un, lq, kr, kc) H locs → lv_has ls 16 [(8, .int (nI (lq + 1))), (7, .int (nI n0)), (6, .int (nI b0)), (5, .int (nI lq)), (3, .int (nI 173631)), (1, .ref (a 0)), (0, .ref z)] → W p l e room_1 s mt #[Value.ref z] below meth c H locs 46 602 Q (F0 mt 680 ls [])) : ∀ (r j : Nat), j + r = lq → ∀ (H : Heap) (locs : List Loc) (ls : Array Slot), StD s G a ar ac (m, er, fun x => nI (sF (fSk L xs) zN (j + 1) x), lg, im, un, j, kr, kc) H locs → lv_has ls 16 [(8, .int (nI (j + 1))), (7, .int (nI n0)), (6, .int (nI b0)), (5, .int (nI lq)), (3, .int (nI 173631)), (1, .ref (a 0)), (0, .ref z)] → W p l e room_1 s mt #[Value.ref z] below meth c H locs 46 602 Q (F0 mt 644 ls []) := by
  obtain ⟨hx, hb, -⟩ := id X
  intro r
  induction r with
  | zero =>
    intro j e0 H locs ls hS hl
    have e1 : j = lq := by omega
    revert hS hl
    rw [e1]
    intro hS hl
    refine lv_iload hx hb dL_law_644 (lv_at hl 0 rfl) ?_
    refine lv_iload hx hb dL_law_646 (lv_at hl 3 rfl) ?_
    refine lv_icmp_gt (tgt := 680) hx hb dL_law_648 (by decide) (fun _ => ?_) (fun h => absurd (i_nlt (by omega) (by omega) h) (by omega))
    exact K _ _ _ hS (lv_sub hl [0, 1, 2, 3, 4, 5, 6] rfl)
  | succ r ih =>
    intro j e0 H locs ls hS hl
    have hi : j < lq := by omega
    refine lv_iload hx hb dL_law_644 (lv_at hl 0 rfl) ?_
    refine lv_iload hx hb dL_law_646 (lv_at hl 3 rfl) ?_
    refine lv_icmp_gt (tgt := 680) hx hb dL_law_648 (by decide) (fun h => absurd (i_lt (by omega) (by omega) h) (by omega)) (fun _ => ?_)
    refine lv_aload_n hx hb dL_law_651 rfl (lv_at hl 5 rfl) ?_
    refine lv_iload hx hb dL_law_652 (lv_at hl 0 rfl) ?_
    refine lv_aload_n hx hb dL_law_654 rfl (lv_at hl 6 rfl) ?_
    refine lv_iload hx hb dL_law_655 (lv_at hl 0 rfl) ?_
    refine lv_bipush (v := nI 10) hx hb dL_law_657 (by decide) ?_
    refine lv_iadd hx hb dL_law_659 ?_
    refine x_cvi (y := nI (j + 1 + 10)) (nI_add _ _) ?_
    refine lv_sipush (v := nI 360) hx hb dL_law_660 (by decide) ?_
    refine r_cell (j + 1 + 10) 360 (by omega) (by omega) (by omega) X hX hbl hLe hS hl.1 (Nat.le_of_ble_eq_true rfl) dL_law_663 (fun H locs hS => ?_)
    refine r_sky  (j + 1) (nI (cN L xs (j + 1 + 10) 360)) (by omega) (by omega) (inP_nI (cN_lt (by decide))) X hS hl.1 (Nat.le_of_ble_eq_true rfl) dL_law_666 (fun H locs hS => ?_)
    have hS : StD s G a ar ac (m, er, fun x => nI (sF (fSk L xs) zN (j + 1 + 1) x), lg, im, un, j + 1, kr, kc) H locs := by
      rw [← sF_s (f := fSk L xs) (g := zN) (d := j + 1) (by omega)]
      exact hS
    refine x_cvi (y := nI 0) (by show nI (sF _ zN (j + 1) (j + 1)) = nI 0; rw [sF_at]; rfl) ?_
    refine lv_if_eq (tgt := 674) hx hb dL_law_669 (by decide) (fun _ => ?_) (fun h => absurd rfl h)
    refine lv_iinc (v := nI (j + 1 + 1)) (lv' := [(8, .int (nI (j + 1 + 1))), (7, .int (nI n0)), (6, .int (nI b0)), (5, .int (nI lq)), (3, .int (nI 173631)), (1, .ref (a 0)), (0, .ref z)]) hx hb dL_law_674 hl (k := 0) rfl (by exact nI_1 _) (by decide) rfl (fun ls hl => ?_)
    refine lv_goto (tgt := 644) hx hb dL_law_677 (by decide) ?_
    exact ih (j + 1) (by omega) _ _ _ hS (lv_sub hl [0, 1, 2, 3, 4, 5, 6] rfl)
