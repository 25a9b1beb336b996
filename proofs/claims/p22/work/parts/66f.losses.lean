/-! The law: each dish lost and back; the errors taken back; lifts; twelve in a row. -/
theorem lf_at {m k : Nat} (hk : k ≤ 60) (hb : m.testBit k = true) : leftR m (nI k) = nI (LQ m k) := by
  unfold leftR
  rw [if_pos (by rw [stn_nI hk]; exact hb), bitO_nI hk]
  rfl
def sS (D0 : Nat → Nat) (n0 at0 : Nat) : Nat → Nat := fun j => if j < n0 then D0 j else at0 + (j - n0)
def vS (n0 : Nat) : Nat → Int32 := fun j => if j < n0 then -6 else 0
theorem sS_1 {D0 : Nat → Nat} {n0 at0 : Nat} : ∀ k, k < n0 → sS D0 n0 at0 k = D0 k := fun k h => if_pos h
theorem sS_2 {D0 : Nat → Nat} {n0 at0 : Nat} : ∀ i, sS D0 n0 at0 (n0 + i) = at0 + i := fun i => by
  show (if n0 + i < n0 then D0 (n0 + i) else at0 + (n0 + i - n0)) = _
  rw [if_neg (by omega), Nat.add_sub_cancel_left]
theorem vS_1 {n0 : Nat} : ∀ k, k < n0 → vS n0 k = -6 := fun k h => if_pos h
theorem vS_2 {n0 : Nat} : ∀ i, vS n0 (n0 + i) = 0 := fun i => if_neg (by omega)
def cF (n i : Nat) : Nat := min (n + i) 16
theorem hL_c {S : Nat → Nat} {v : Nat → Int32} {e0 : Nat → Int32} {n i : Nat} : lgN (S (n + i), hE S v e0 (n + i) (S (n + i))) (hL S v e0 (cF n i) (n + i)) = hL S v e0 (cF n (i + 1)) (n + (i + 1)) := by
  unfold cF
  rcases Nat.lt_or_ge (n + i) 16 with h | h
  · rw [Nat.min_eq_left (by omega), hL_new h, Nat.min_eq_left (by omega)]
    rfl
  · rw [Nat.min_eq_right h, hL_full, Nat.min_eq_right (by omega)]
    rfl
theorem r12_pc : ∀ b, b < 49 → ∀ i, i < 13 → pcN 64 (rw12 i b) = i := by decide +kernel
set_option maxHeartbeats 4000000 in
set_option maxRecDepth 100000 in
theorem law_b9 {p : Program} {l : Launch} {e : Env} {s : State} {mt : MethodId} {z : Nat} {below : List Frame} {meth : Method} {c : Code} {G : GG} {nm : String} {Q : State → Prop} {a ar ac : Nat → Nat} {L : Nat} {xs : Nat → Int32} {m : Nat} {er sk : Nat → Int32} {lg : List (Nat × Int32)} {im : Nat × (Nat → Int32) × (Nat → Int32) × Int32} {un kr kc n0 lq sl : Nat} {v3 v6 v8 : Int32} (X : CX p s mt meth c #[Value.ref z] G wsL_law RL cL_law 16 nm (fun q => s.heap.size ≤ q)) (hX : va_X z L xs s s.heap) (hbl : z < s.heap.size) (hLe : L ≤ 260) (hlg : lg.length = n0) (hsl : cN L xs 60 360 = sl) (K : ∀ (H : Heap) (locs : List Loc) (ls : Array Slot), StD s G a ar ac (m, er, sk, lg, im, un, lq + n0, kr, kc) H locs → lv_has ls 16 [(11, .int (nI 1)), (10, .int (nI sl)), (7, .int (nI n0)), (6, .int v6), (5, .int (nI lq)), (3, .int v3), (1, .ref (a 0)), (0, .ref z)] → W p l e room_1 s mt #[Value.ref z] below meth c H locs 46 602 Q (F0 mt 932 ls [])) {H : Heap} {locs : List Loc} {ls : Array Slot} (hS : StD s G a ar ac (m, er, sk, lg, im, un, lq + n0, kr, kc) H locs) (hl : lv_has ls 16 [(9, .int v8), (8, .int v8), (7, .int (nI n0)), (6, .int v6), (5, .int (nI lq)), (3, .int v3), (1, .ref (a 0)), (0, .ref z)]) : W p l e room_1 s mt #[Value.ref z] below meth c H locs 46 602 Q (F0 mt 885 ls []) := by
  obtain ⟨hx, hb, -⟩ := id X
  refine lv_iload hx hb dL_law_885 (lv_at hl 0 rfl) ?_
  refine lv_iload hx hb dL_law_887 (lv_at hl 1 rfl) ?_
  refine lv_icmp_ne (tgt := 916) hx hb dL_law_889 (by decide) (fun h => absurd rfl h) (fun _ => ?_)
  refine lv_aload_n hx hb dL_law_892 rfl (lv_at hl 6 rfl) ?_
  refine lv_bipush (v := nI 6) hx hb dL_law_893 (by decide) ?_
  refine r_told  (nI 6)  X hS hl.1 (Nat.le_of_ble_eq_true rfl) dL_law_895 (fun H locs hS => ?_)
  refine x_cvi (y := nI (lq + n0)) (td_6) ?_
  refine lv_iload hx hb dL_law_898 (lv_at hl 4 rfl) ?_
  refine lv_iload hx hb dL_law_900 (lv_at hl 2 rfl) ?_
  refine lv_iadd hx hb dL_law_902 ?_
  refine x_cvi (y := nI (lq + n0)) (nI_add _ _) ?_
  refine lv_icmp_ne (tgt := 916) hx hb dL_law_903 (by decide) (fun h => absurd rfl h) (fun _ => ?_)
  refine lv_aload_n hx hb dL_law_906 rfl (lv_at hl 6 rfl) ?_
  refine lv_iconst (v := nI 0) hx hb dL_law_907 (by decide) ?_
  refine r_told  (nI 0)  X hS hl.1 (Nat.le_of_ble_eq_true rfl) dL_law_908 (fun H locs hS => ?_)
  refine x_cvi (y := nI n0) (by rw [td_0, hlg]) ?_
  refine lv_iload hx hb dL_law_911 (lv_at hl 2 rfl) ?_
  refine lv_icmp_eq (tgt := 918) hx hb dL_law_913 (by decide) (fun _ => ?_) (fun h => absurd rfl h)
  refine lv_aload_n hx hb dL_law_918 rfl (lv_at hl 7 rfl) ?_
  refine lv_bipush (v := nI 60) hx hb dL_law_919 (by decide) ?_
  refine lv_sipush (v := nI 360) hx hb dL_law_921 (by decide) ?_
  refine r_cell 60 360 (by omega) (by omega) (by omega) X hX hbl hLe hS hl.1 (Nat.le_of_ble_eq_true rfl) dL_law_924 (fun H locs hS => ?_)
  refine x_cvi (y := nI sl) (congrArg nI hsl) ?_
  refine lv_istore (lv' := [(10, .int (nI sl)), (9, .int v8), (8, .int v8), (7, .int (nI n0)), (6, .int v6), (5, .int (nI lq)), (3, .int v3), (1, .ref (a 0)), (0, .ref z)]) hx hb dL_law_927 hl (by decide) rfl (fun ls hl => ?_)
  refine lv_iconst (v := nI 1) hx hb dL_law_929 (by decide) ?_
  refine lv_istore (lv' := [(11, .int (nI 1)), (10, .int (nI sl)), (9, .int v8), (8, .int v8), (7, .int (nI n0)), (6, .int v6), (5, .int (nI lq)), (3, .int v3), (1, .ref (a 0)), (0, .ref z)]) hx hb dL_law_930 hl (by decide) rfl (fun ls hl => ?_)
  exact K _ _ _ hS (lv_sub hl [0, 1, 4, 5, 6, 7, 8, 9] rfl)
set_option maxHeartbeats 4000000 in
set_option maxRecDepth 100000 in
theorem law_b12 {p : Program} {l : Launch} {e : Env} {s : State} {mt : MethodId} {z : Nat} {below : List Frame} {meth : Method} {c : Code} {G : GG} {nm : String} {Q : State → Prop} {a ar ac : Nat → Nat} {L : Nat} {xs : Nat → Int32} {m0 : Nat} {er sk : Nat → Int32} {lg : List (Nat × Int32)} {im : Nat × (Nat → Int32) × (Nat → Int32) × Int32} {tp kr kc n0 lq b0 : Nat} {D0 : Nat → Nat} {v3 v6 : Int32} (X : CX p s mt meth c #[Value.ref z] G wsL_law RL cL_law 16 nm (fun q => s.heap.size ≤ q)) (hX : va_X z L xs s s.heap) (hbl : z < s.heap.size) (hLe : L ≤ 260) (hD : DD m0 n0 lq b0 D0) (hdE : dE m0 er) (hlg : lg.length = n0) (him : im.2.2.2 = 0) (K : ∀ (H : Heap) (locs : List Loc) (ls : Array Slot), StD s G a ar ac (m0, er, sk, lg, imF im m0 er sk n0, n0, tp, kr, kc) H locs → lv_has ls 16 [(12, .int (nI n0)), (11, .int (nI (lsF m0 D0 n0))), (7, .int (nI n0)), (6, .int v6), (5, .int (nI lq)), (3, .int v3), (1, .ref (a 0)), (0, .ref z)] → W p l e room_1 s mt #[Value.ref z] below meth c H locs 46 602 Q (F0 mt 1193 ls [])) : ∀ (r i : Nat), i + r = n0 → ∀ (H : Heap) (locs : List Loc) (ls : Array Slot), StD s G a ar ac (m0, er, sk, lg, imF im m0 er sk i, i, tp, kr, kc) H locs → lv_has ls 16 [(12, .int (nI i)), (11, .int (nI (lsF m0 D0 i))), (7, .int (nI n0)), (6, .int v6), (5, .int (nI lq)), (3, .int v3), (1, .ref (a 0)), (0, .ref z)] → W p l e room_1 s mt #[Value.ref z] below meth c H locs 46 602 Q (F0 mt 1039 ls []) := by
  obtain ⟨hx, hb, -⟩ := id X
  obtain ⟨hK, hre, hsp, hx0, hxn, hn3, hn8, hl3, hl20, hbl6⟩ := id hD
  intro r
  induction r with
  | zero =>
    intro i e0 H locs ls hS hl
    have e1 : i = n0 := by omega
    revert hS hl
    rw [e1]
    intro hS hl
    refine lv_iload hx hb dL_law_1039 (lv_at hl 0 rfl) ?_
    refine lv_iload hx hb dL_law_1041 (lv_at hl 2 rfl) ?_
    refine lv_icmp_ge (tgt := 1193) hx hb dL_law_1043 (by decide) (fun _ => ?_) (fun h => absurd (i_nle (by omega) (by omega) h) (by omega))
    exact K _ _ _ hS (lv_sub hl [0, 1, 2, 3, 4, 5, 6, 7] rfl)
  | succ r ih =>
    intro i e0 H locs ls hS hl
    have hi : i < n0 := by omega
    have hL1 := LQ_le m0 (D0 i)
    have hL2 := lsF_le m0 D0 i
    have hlN : lgN (D0 i, er (D0 i)) lg = (D0 i, er (D0 i)) :: lg := by
      unfold lgN
      rw [if_neg (by omega)]
    have hq1 : pcN 64 (bcm m0 (D0 i) (-6)) = n0 - 1 := by
      have q := pc_bcm m0 (D0 i) (-6) (hK.le hi)
      rw [hK.tb hi, if_pos rfl, if_pos rfl, hK.2.1] at q
      omega
    have hq2 : reN (bcm m0 (D0 i) (-6)) = LQ m0 (D0 i) := by
      unfold bcm LQ
      rw [if_pos rfl]
    have hq3 : (bcm m0 (D0 i) (-6)).testBit (D0 i) = false := by
      rw [bcm_tb, if_pos rfl]
      rfl
    have hq4 : bcm (bcm m0 (D0 i) (-6)) (D0 i) (er (D0 i)) = m0 := bcm_back (hdE _ (hK.le hi))
    have hq5 : upd (upd er (D0 i) (-6)) (D0 i) (er (D0 i)) = er := by
      rw [fa_upd_twice]
      exact fa_upd_same rfl
    refine lv_iload hx hb dL_law_1039 (lv_at hl 0 rfl) ?_
    refine lv_iload hx hb dL_law_1041 (lv_at hl 2 rfl) ?_
    refine lv_icmp_ge (tgt := 1193) hx hb dL_law_1043 (by decide) (fun h => absurd (i_le (by omega) (by omega) h) (by omega)) (fun _ => ?_)
    refine lv_aload_n hx hb dL_law_1046 rfl (lv_at hl 6 rfl) ?_
    refine lv_iload hx hb dL_law_1047 (lv_at hl 0 rfl) ?_
    refine r_station  (nI i)  X hS hl.1 (Nat.le_of_ble_eq_true rfl) dL_law_1049 (fun H locs hS => ?_)
    refine x_cvi (y := nI (D0 i)) (hK.at hi) ?_
    refine lv_istore (lv' := [(13, .int (nI (D0 i))), (12, .int (nI i)), (11, .int (nI (lsF m0 D0 i))), (7, .int (nI n0)), (6, .int v6), (5, .int (nI lq)), (3, .int v3), (1, .ref (a 0)), (0, .ref z)]) hx hb dL_law_1052 hl (by decide) rfl (fun ls hl => ?_)
    refine lv_aload_n hx hb dL_law_1054 rfl (lv_at hl 7 rfl) ?_
    refine lv_bipush (v := nI 100) hx hb dL_law_1055 (by decide) ?_
    refine lv_iload hx hb dL_law_1057 (lv_at hl 0 rfl) ?_
    refine lv_iadd hx hb dL_law_1059 ?_
    refine x_cvi (y := nI (100 + (D0 i))) (nI_add _ _) ?_
    refine r_told  (nI (100 + (D0 i)))  X hS hl.1 (Nat.le_of_ble_eq_true rfl) dL_law_1060 (fun H locs hS => ?_)
    refine x_cvi (y := er (D0 i)) (td_e (hK.le hi)) ?_
    refine lv_istore (lv' := [(14, .int (er (D0 i))), (13, .int (nI (D0 i))), (12, .int (nI i)), (11, .int (nI (lsF m0 D0 i))), (7, .int (nI n0)), (6, .int v6), (5, .int (nI lq)), (3, .int v3), (1, .ref (a 0)), (0, .ref z)]) hx hb dL_law_1063 hl (by decide) rfl (fun ls hl => ?_)
    refine lv_aload_n hx hb dL_law_1065 rfl (lv_at hl 8 rfl) ?_
    refine lv_iload hx hb dL_law_1066 (lv_at hl 1 rfl) ?_
    refine r_left  (nI (D0 i))  X hS hl.1 (Nat.le_of_ble_eq_true rfl) dL_law_1068 (fun H locs hS => ?_)
    refine x_cvi (y := nI (LQ m0 (D0 i))) (lf_at (hK.le hi) (hK.tb hi)) ?_
    refine lv_istore (lv' := [(15, .int (nI (LQ m0 (D0 i)))), (14, .int (er (D0 i))), (13, .int (nI (D0 i))), (12, .int (nI i)), (11, .int (nI (lsF m0 D0 i))), (7, .int (nI n0)), (6, .int v6), (5, .int (nI lq)), (3, .int v3), (1, .ref (a 0)), (0, .ref z)]) hx hb dL_law_1071 hl (by decide) rfl (fun ls hl => ?_)
    have kJ1 : (∀ (H : Heap) (locs : List Loc), StD s G a ar ac (m0, er, sk, lg, imF im m0 er sk i, i, tp, kr, kc) H locs → W p l e room_1 s mt #[Value.ref z] below meth c H locs 46 602 Q (F0 mt 1087 ls [.int (nI (lsF m0 D0 (i + 1)))])) → W p l e room_1 s mt #[Value.ref z] below meth c H locs 46 602 Q (F0 mt 1073 ls []) := by
      intro kj
      refine lv_iload hx hb dL_law_1073 (lv_at hl 0 rfl) ?_
      refine lv_iload hx hb dL_law_1075 (lv_at hl 4 rfl) ?_
      refine lv_icmp_ge (tgt := 1085) hx hb dL_law_1077 (by decide) (fun c1077 => ?_) (fun c1077 => ?_)
      · have c1077 : lsF m0 D0 i ≤ LQ m0 (D0 i) := i_le (by omega) (by omega) c1077
        refine lv_iload hx hb dL_law_1085 (lv_at hl 4 rfl) ?_
        refine x_cvi (y := nI (lsF m0 D0 (i + 1))) (congrArg nI (by show _ = (if LQ m0 (D0 i) < lsF m0 D0 i then LQ m0 (D0 i) else lsF m0 D0 i); split <;> omega)) ?_
        exact kj H locs hS
      · have c1077 : LQ m0 (D0 i) < lsF m0 D0 i := i_nle (by omega) (by omega) c1077
        refine lv_iload hx hb dL_law_1080 (lv_at hl 0 rfl) ?_
        refine lv_goto (tgt := 1087) hx hb dL_law_1082 (by decide) ?_
        refine x_cvi (y := nI (lsF m0 D0 (i + 1))) (congrArg nI (by show _ = (if LQ m0 (D0 i) < lsF m0 D0 i then LQ m0 (D0 i) else lsF m0 D0 i); split <;> omega)) ?_
        exact kj H locs hS
    refine kJ1 (fun H locs hS => ?_)
    refine lv_istore (lv' := [(11, .int (nI (lsF m0 D0 (i + 1)))), (15, .int (nI (LQ m0 (D0 i)))), (14, .int (er (D0 i))), (13, .int (nI (D0 i))), (12, .int (nI i)), (7, .int (nI n0)), (6, .int v6), (5, .int (nI lq)), (3, .int v3), (1, .ref (a 0)), (0, .ref z)]) hx hb dL_law_1087 hl (by decide) rfl (fun ls hl => ?_)
    refine lv_aload_n hx hb dL_law_1089 rfl (lv_at hl 9 rfl) ?_
    refine lv_iconst (v := nI 0) hx hb dL_law_1090 (by decide) ?_
    refine r_image0    X hS hl.1 (Nat.le_of_ble_eq_true rfl) dL_law_1091 (fun H locs hS => ?_)
    have hS : StD s G a ar ac (m0, er, sk, lg, imF im m0 er sk (i + 1), i, tp, kr, kc) H locs := by
      rw [imF_or him i] at hS
      exact hS
    refine x_cvi (y := nI 1) (rfl) ?_
    refine lv_iconst (v := nI 1) hx hb dL_law_1094 (by decide) ?_
    refine lv_icmp_ne (tgt := 1185) hx hb dL_law_1095 (by decide) (fun h => absurd rfl h) (fun _ => ?_)
    refine lv_aload_n hx hb dL_law_1098 rfl (lv_at hl 9 rfl) ?_
    refine lv_iload hx hb dL_law_1099 (lv_at hl 3 rfl) ?_
    refine r_lift  (D0 i) (hK.le hi) (hK.tb hi) X hS hl.1 (Nat.le_of_ble_eq_true rfl) dL_law_1101 (fun H locs hS => ?_)
    have hS : StD s G a ar ac (bcm m0 (D0 i) (-6), upd er (D0 i) (-6), sk, (D0 i, er (D0 i)) :: lg, imF im m0 er sk (i + 1), i, tp, kr, kc) H locs := by
      rw [hlN] at hS
      exact hS
    refine x_cvi (y := nI (n0 - 1)) (congrArg nI hq1) ?_
    refine lv_iload hx hb dL_law_1104 (lv_at hl 5 rfl) ?_
    refine lv_iconst (v := nI 1) hx hb dL_law_1106 (by decide) ?_
    refine lv_isub hx hb dL_law_1107 ?_
    refine x_cvi (y := nI (n0 - 1)) (pk_sub (by omega)) ?_
    refine lv_icmp_ne (tgt := 1185) hx hb dL_law_1108 (by decide) (fun h => absurd rfl h) (fun _ => ?_)
    refine lv_aload_n hx hb dL_law_1111 rfl (lv_at hl 9 rfl) ?_
    refine lv_iconst (v := nI 2) hx hb dL_law_1112 (by decide) ?_
    refine r_facts  (nI 2)  X hS hl.1 (Nat.le_of_ble_eq_true rfl) dL_law_1113 (fun H locs hS => ?_)
    refine x_cvi (y := nI (LQ m0 (D0 i))) (by rw [fa_2, hq2]) ?_
    refine lv_iload hx hb dL_law_1116 (lv_at hl 1 rfl) ?_
    refine lv_icmp_ne (tgt := 1185) hx hb dL_law_1118 (by decide) (fun h => absurd rfl h) (fun _ => ?_)
    refine lv_aload_n hx hb dL_law_1121 rfl (lv_at hl 9 rfl) ?_
    refine lv_bipush (v := nI 100) hx hb dL_law_1122 (by decide) ?_
    refine lv_iload hx hb dL_law_1124 (lv_at hl 3 rfl) ?_
    refine lv_iadd hx hb dL_law_1126 ?_
    refine x_cvi (y := nI (100 + (D0 i))) (nI_add _ _) ?_
    refine r_told  (nI (100 + (D0 i)))  X hS hl.1 (Nat.le_of_ble_eq_true rfl) dL_law_1127 (fun H locs hS => ?_)
    refine x_cvi (y := (-6)) (by rw [td_e (hK.le hi), upd_at]) ?_
    refine lv_bipush (v := (-6)) hx hb dL_law_1130 (by decide) ?_
    refine lv_icmp_ne (tgt := 1185) hx hb dL_law_1132 (by decide) (fun h => absurd rfl h) (fun _ => ?_)
    refine lv_aload_n hx hb dL_law_1135 rfl (lv_at hl 9 rfl) ?_
    refine lv_iload hx hb dL_law_1136 (lv_at hl 3 rfl) ?_
    refine lv_aload_n hx hb dL_law_1138 rfl (lv_at hl 9 rfl) ?_
    refine lv_iconst (v := nI 0) hx hb dL_law_1139 (by decide) ?_
    refine r_station  (nI 0)  X hS hl.1 (Nat.le_of_ble_eq_true rfl) dL_law_1140 (fun H locs hS => ?_)
    refine r_phase  (nI (D0 i)) (mkA (bcm m0 (D0 i) (-6)) (nI 0))  X hS hl.1 (Nat.le_of_ble_eq_true rfl) dL_law_1143 (fun H locs hS => ?_)
    refine x_cvi (y := (-1)) (ph_no (hK.le hi) hq3) ?_
    refine lv_iconst (v := (-1)) hx hb dL_law_1146 (by decide) ?_
    refine lv_icmp_ne (tgt := 1185) hx hb dL_law_1147 (by decide) (fun h => absurd rfl h) (fun _ => ?_)
    refine lv_aload_n hx hb dL_law_1150 rfl (lv_at hl 9 rfl) ?_
    refine r_undo (lg := []) (D0 i) (er (D0 i)) lg  X hS hl.1 (Nat.le_of_ble_eq_true rfl) dL_law_1151 (fun H locs hS => ?_)
    have hS : StD s G a ar ac (m0, er, sk, lg, imF im m0 er sk (i + 1), i + 1, tp, kr, kc) H locs := by
      rw [hq4, hq5] at hS
      exact hS
    refine x_cvi (y := nI n0) (by rw [hlg]) ?_
    refine lv_iload hx hb dL_law_1154 (lv_at hl 5 rfl) ?_
    refine lv_icmp_ne (tgt := 1185) hx hb dL_law_1156 (by decide) (fun h => absurd rfl h) (fun _ => ?_)
    refine lv_aload_n hx hb dL_law_1159 rfl (lv_at hl 9 rfl) ?_
    refine lv_bipush (v := nI 100) hx hb dL_law_1160 (by decide) ?_
    refine lv_iload hx hb dL_law_1162 (lv_at hl 3 rfl) ?_
    refine lv_iadd hx hb dL_law_1164 ?_
    refine x_cvi (y := nI (100 + (D0 i))) (nI_add _ _) ?_
    refine r_told  (nI (100 + (D0 i)))  X hS hl.1 (Nat.le_of_ble_eq_true rfl) dL_law_1165 (fun H locs hS => ?_)
    refine x_cvi (y := er (D0 i)) (td_e (hK.le hi)) ?_
    refine lv_iload hx hb dL_law_1168 (lv_at hl 2 rfl) ?_
    refine lv_icmp_ne (tgt := 1185) hx hb dL_law_1170 (by decide) (fun h => absurd rfl h) (fun _ => ?_)
    refine lv_aload_n hx hb dL_law_1173 rfl (lv_at hl 9 rfl) ?_
    refine lv_iconst (v := nI 3) hx hb dL_law_1174 (by decide) ?_
    refine r_told  (nI 3)  X hS hl.1 (Nat.le_of_ble_eq_true rfl) dL_law_1175 (fun H locs hS => ?_)
    refine x_cvi (y := nI (i + 1)) (td_3) ?_
    refine lv_iload hx hb dL_law_1178 (lv_at hl 4 rfl) ?_
    refine lv_iconst (v := nI 1) hx hb dL_law_1180 (by decide) ?_
    refine lv_iadd hx hb dL_law_1181 ?_
    refine x_cvi (y := nI (i + 1)) (nI_add _ _) ?_
    refine lv_icmp_eq (tgt := 1187) hx hb dL_law_1182 (by decide) (fun _ => ?_) (fun h => absurd rfl h)
    refine lv_iinc (v := nI (i + 1)) (lv' := [(12, .int (nI (i + 1))), (11, .int (nI (lsF m0 D0 (i + 1)))), (15, .int (nI (LQ m0 (D0 i)))), (14, .int (er (D0 i))), (13, .int (nI (D0 i))), (7, .int (nI n0)), (6, .int v6), (5, .int (nI lq)), (3, .int v3), (1, .ref (a 0)), (0, .ref z)]) hx hb dL_law_1187 hl (k := 4) rfl (by exact nI_1 _) (by decide) rfl (fun ls hl => ?_)
    refine lv_goto (tgt := 1039) hx hb dL_law_1190 (by decide) ?_
    exact ih (i + 1) (by omega) _ _ _ hS (lv_sub hl [0, 1, 5, 6, 7, 8, 9, 10] rfl)
set_option maxHeartbeats 4000000 in
set_option maxRecDepth 100000 in
theorem law_b13 {p : Program} {l : Launch} {e : Env} {s : State} {mt : MethodId} {z : Nat} {below : List Frame} {meth : Method} {c : Code} {G : GG} {nm : String} {Q : State → Prop} {a ar ac : Nat → Nat} {L : Nat} {xs : Nat → Int32} {m0 : Nat} {er sk : Nat → Int32} {lg : List (Nat × Int32)} {im : Nat × (Nat → Int32) × (Nat → Int32) × Int32} {un tp kr kc n0 lq b0 : Nat} {D0 : Nat → Nat} {v3 v6 : Int32} (X : CX p s mt meth c #[Value.ref z] G wsL_law RL cL_law 16 nm (fun q => s.heap.size ≤ q)) (hX : va_X z L xs s s.heap) (hbl : z < s.heap.size) (hLe : L ≤ 260) (hD : DD m0 n0 lq b0 D0) (K : ∀ (H : Heap) (locs : List Loc) (ls : Array Slot), StD s G a ar ac (m0, er, sk, lg, im, un, tp, kr, kc) H locs → lv_has ls 16 [(12, .int (nI 0)), (7, .int (nI n0)), (6, .int v6), (3, .int v3), (1, .ref (a 0)), (0, .ref z)] → W p l e room_1 s mt #[Value.ref z] below meth c H locs 46 602 Q (F0 mt 1230 ls [])) {H : Heap} {locs : List Loc} {ls : Array Slot} (hS : StD s G a ar ac (m0, er, sk, lg, im, un, tp, kr, kc) H locs) (hl : lv_has ls 16 [(11, .int (nI (lsF m0 D0 n0))), (7, .int (nI n0)), (6, .int v6), (5, .int (nI lq)), (3, .int v3), (1, .ref (a 0)), (0, .ref z)]) : W p l e room_1 s mt #[Value.ref z] below meth c H locs 46 602 Q (F0 mt 1193 ls []) := by
  obtain ⟨hx, hb, -⟩ := id X
  obtain ⟨hK, hre, hsp, hx0, hxn, hn3, hn8, hl3, hl20, hbl6⟩ := id hD
  have hls := ls_le hK (by omega)
  rw [hre] at hls
  refine lv_aload_n hx hb dL_law_1193 rfl (lv_at hl 5 rfl) ?_
  refine r_sure    X hS hl.1 (Nat.le_of_ble_eq_true rfl) dL_law_1194 (fun H locs hS => ?_)
  refine x_cvi (y := nI (lsF m0 D0 n0)) (ls_sure hK (by omega)) ?_
  refine lv_iload hx hb dL_law_1197 (lv_at hl 0 rfl) ?_
  refine lv_icmp_ne (tgt := 1225) hx hb dL_law_1199 (by decide) (fun h => absurd rfl h) (fun _ => ?_)
  refine lv_aload_n hx hb dL_law_1202 rfl (lv_at hl 5 rfl) ?_
  refine lv_aload_n hx hb dL_law_1203 rfl (lv_at hl 5 rfl) ?_
  refine lv_iconst (v := nI 0) hx hb dL_law_1204 (by decide) ?_
  refine r_missed  (nI 0)  X hS hl.1 (Nat.le_of_ble_eq_true rfl) dL_law_1205 (fun H locs hS => ?_)
  refine r_left  (misR m0 (nI 0))  X hS hl.1 (Nat.le_of_ble_eq_true rfl) dL_law_1208 (fun H locs hS => ?_)
  refine x_cvi (y := nI (lsF m0 D0 n0)) (ls_mis hK (by omega)) ?_
  refine lv_iload hx hb dL_law_1211 (lv_at hl 0 rfl) ?_
  refine lv_icmp_ne (tgt := 1225) hx hb dL_law_1213 (by decide) (fun h => absurd rfl h) (fun _ => ?_)
  refine lv_aload_n hx hb dL_law_1216 rfl (lv_at hl 5 rfl) ?_
  refine r_sure    X hS hl.1 (Nat.le_of_ble_eq_true rfl) dL_law_1217 (fun H locs hS => ?_)
  refine x_cvi (y := nI (lsF m0 D0 n0)) (ls_sure hK (by omega)) ?_
  refine lv_iload hx hb dL_law_1220 (lv_at hl 3 rfl) ?_
  refine lv_icmp_le (tgt := 1227) hx hb dL_law_1222 (by decide) (fun _ => ?_) (fun h => absurd (i_nle (by omega) (by omega) h) (by omega))
  refine lv_iconst (v := nI 0) hx hb dL_law_1227 (by decide) ?_
  refine lv_istore (lv' := [(12, .int (nI 0)), (11, .int (nI (lsF m0 D0 n0))), (7, .int (nI n0)), (6, .int v6), (5, .int (nI lq)), (3, .int v3), (1, .ref (a 0)), (0, .ref z)]) hx hb dL_law_1228 hl (by decide) rfl (fun ls hl => ?_)
  exact K _ _ _ hS (lv_sub hl [0, 2, 3, 5, 6, 7] rfl)
set_option maxHeartbeats 4000000 in
set_option maxRecDepth 100000 in
theorem law_b14 {p : Program} {l : Launch} {e : Env} {s : State} {mt : MethodId} {z : Nat} {below : List Frame} {meth : Method} {c : Code} {G : GG} {nm : String} {Q : State → Prop} {a ar ac : Nat → Nat} {L : Nat} {xs : Nat → Int32} {m0 : Nat} {eI sk : Nat → Int32} {im : Nat × (Nat → Int32) × (Nat → Int32) × Int32} {tp kr kc n0 : Nat} {D0 : Nat → Nat} {v3 v6 : Int32} (X : CX p s mt meth c #[Value.ref z] G wsL_law RL cL_law 16 nm (fun q => s.heap.size ≤ q)) (hX : va_X z L xs s s.heap) (hbl : z < s.heap.size) (hLe : L ≤ 260) (hK : MK m0 n0 D0) (hn8 : n0 ≤ 8) (h0 : ∀ j, j < n0 → eI (D0 j) = 0) (K : ∀ (H : Heap) (locs : List Loc) (ls : Array Slot), StD s G a ar ac (m0, hE D0 (vB L xs) eI (n0 - n0), sk, hL D0 (vB L xs) eI (n0 - n0) (n0 - n0), im, n0 + n0, tp, kr, kc) H locs → lv_has ls 16 [(12, .int (nI n0)), (7, .int (nI n0)), (6, .int v6), (3, .int v3), (1, .ref (a 0)), (0, .ref z)] → W p l e room_1 s mt #[Value.ref z] below meth c H locs 46 602 Q (F0 mt 1280 ls [])) : ∀ (r i : Nat), i + r = n0 → ∀ (H : Heap) (locs : List Loc) (ls : Array Slot), StD s G a ar ac (m0, hE D0 (vB L xs) eI (n0 - i), sk, hL D0 (vB L xs) eI (n0 - i) (n0 - i), im, n0 + i, tp, kr, kc) H locs → lv_has ls 16 [(12, .int (nI i)), (7, .int (nI n0)), (6, .int v6), (3, .int v3), (1, .ref (a 0)), (0, .ref z)] → W p l e room_1 s mt #[Value.ref z] below meth c H locs 46 602 Q (F0 mt 1230 ls []) := by
  obtain ⟨hx, hb, -⟩ := id X
  intro r
  induction r with
  | zero =>
    intro i e0 H locs ls hS hl
    have e1 : i = n0 := by omega
    revert hS hl
    rw [e1]
    intro hS hl
    refine lv_iload hx hb dL_law_1230 (lv_at hl 0 rfl) ?_
    refine lv_iload hx hb dL_law_1232 (lv_at hl 1 rfl) ?_
    refine lv_icmp_ge (tgt := 1280) hx hb dL_law_1234 (by decide) (fun _ => ?_) (fun h => absurd (i_nle (by omega) (by omega) h) (by omega))
    exact K _ _ _ hS (lv_sub hl [0, 1, 2, 3, 4, 5] rfl)
  | succ r ih =>
    intro i e0 H locs ls hS hl
    have hi : i < n0 := by omega
    have hq : n0 - 1 - i < n0 := by omega
    have hE0 : hE D0 (vB L xs) eI (n0 - 1 - i) (D0 (n0 - 1 - i)) = 0 := by
      rw [hE_at hK hq _ (by omega), if_neg (Nat.lt_irrefl _), h0 _ hq]
    have hne : hE D0 (vB L xs) eI (n0 - 1 - i) (D0 (n0 - 1 - i)) ≠ -6 := by
      rw [hE0]
      decide
    refine lv_iload hx hb dL_law_1230 (lv_at hl 0 rfl) ?_
    refine lv_iload hx hb dL_law_1232 (lv_at hl 1 rfl) ?_
    refine lv_icmp_ge (tgt := 1280) hx hb dL_law_1234 (by decide) (fun h => absurd (i_le (by omega) (by omega) h) (by omega)) (fun _ => ?_)
    rw [show n0 - i = n0 - 1 - i + 1 by omega] at hS
    have hS : StD s G a ar ac (m0, hE D0 (vB L xs) eI (n0 - 1 - i + 1), sk, (D0 (n0 - 1 - i), hE D0 (vB L xs) eI (n0 - 1 - i) (D0 (n0 - 1 - i))) :: hL D0 (vB L xs) eI (n0 - 1 - i) (n0 - 1 - i), im, n0 + i, tp, kr, kc) H locs := hS
    refine lv_aload_n hx hb dL_law_1237 rfl (lv_at hl 4 rfl) ?_
    refine r_undo (lg := []) (D0 (n0 - 1 - i)) (hE D0 (vB L xs) eI (n0 - 1 - i) (D0 (n0 - 1 - i))) (hL D0 (vB L xs) eI (n0 - 1 - i) (n0 - 1 - i))  X hS hl.1 (Nat.le_of_ble_eq_true rfl) dL_law_1238 (fun H locs hS => ?_)
    have hS : StD s G a ar ac (m0, hE D0 (vB L xs) eI (n0 - 1 - i), sk, hL D0 (vB L xs) eI (n0 - 1 - i) (n0 - 1 - i), im, n0 + i + 1, tp, kr, kc) H locs := by
      rw [bcm_same (hK.tb hq) hne, h_backE] at hS
      exact hS
    refine x_cvi (y := nI (n0 - 1 - i)) (by rw [hL_len]) ?_
    refine lv_iload hx hb dL_law_1241 (lv_at hl 1 rfl) ?_
    refine lv_iconst (v := nI 1) hx hb dL_law_1243 (by decide) ?_
    refine lv_isub hx hb dL_law_1244 ?_
    refine x_cvi (y := nI (n0 - 1)) (pk_sub (by omega)) ?_
    refine lv_iload hx hb dL_law_1245 (lv_at hl 0 rfl) ?_
    refine lv_isub hx hb dL_law_1247 ?_
    refine x_cvi (y := nI ((n0 - 1) - i)) (pk_sub (by omega)) ?_
    refine lv_icmp_ne (tgt := 1272) hx hb dL_law_1248 (by decide) (fun h => absurd rfl h) (fun _ => ?_)
    refine lv_aload_n hx hb dL_law_1251 rfl (lv_at hl 4 rfl) ?_
    refine lv_bipush (v := nI 100) hx hb dL_law_1252 (by decide) ?_
    refine lv_aload_n hx hb dL_law_1254 rfl (lv_at hl 4 rfl) ?_
    refine lv_iload hx hb dL_law_1255 (lv_at hl 1 rfl) ?_
    refine lv_iconst (v := nI 1) hx hb dL_law_1257 (by decide) ?_
    refine lv_isub hx hb dL_law_1258 ?_
    refine x_cvi (y := nI (n0 - 1)) (pk_sub (by omega)) ?_
    refine lv_iload hx hb dL_law_1259 (lv_at hl 0 rfl) ?_
    refine lv_isub hx hb dL_law_1261 ?_
    refine x_cvi (y := nI ((n0 - 1) - i)) (pk_sub (by omega)) ?_
    refine r_station  (nI ((n0 - 1) - i))  X hS hl.1 (Nat.le_of_ble_eq_true rfl) dL_law_1262 (fun H locs hS => ?_)
    refine x_cvi (y := nI (D0 (n0 - 1 - i))) (hK.at hq) ?_
    refine lv_iadd hx hb dL_law_1265 ?_
    refine x_cvi (y := nI (100 + (D0 (n0 - 1 - i)))) (nI_add _ _) ?_
    refine r_told  (nI (100 + (D0 (n0 - 1 - i))))  X hS hl.1 (Nat.le_of_ble_eq_true rfl) dL_law_1266 (fun H locs hS => ?_)
    refine x_cvi (y := nI 0) (by rw [td_e (hK.le hq), hE0]; rfl) ?_
    refine lv_if_eq (tgt := 1274) hx hb dL_law_1269 (by decide) (fun _ => ?_) (fun h => absurd rfl h)
    refine lv_iinc (v := nI (i + 1)) (lv' := [(12, .int (nI (i + 1))), (7, .int (nI n0)), (6, .int v6), (3, .int v3), (1, .ref (a 0)), (0, .ref z)]) hx hb dL_law_1274 hl (k := 0) rfl (by exact nI_1 _) (by decide) rfl (fun ls hl => ?_)
    refine lv_goto (tgt := 1230) hx hb dL_law_1277 (by decide) ?_
    have hS : StD s G a ar ac (m0, hE D0 (vB L xs) eI (n0 - (i + 1)), sk, hL D0 (vB L xs) eI (n0 - (i + 1)) (n0 - (i + 1)), im, n0 + (i + 1), tp, kr, kc) H locs := by
      rw [show n0 - 1 - i = n0 - (i + 1) by omega] at hS
      exact hS
    exact ih (i + 1) (by omega) _ _ _ hS (lv_sub hl [0, 1, 2, 3, 4, 5] rfl)
set_option maxHeartbeats 4000000 in
set_option maxRecDepth 100000 in
theorem law_b15 {p : Program} {l : Launch} {e : Env} {s : State} {mt : MethodId} {z : Nat} {below : List Frame} {meth : Method} {c : Code} {G : GG} {nm : String} {Q : State → Prop} {a ar ac : Nat → Nat} {L : Nat} {xs : Nat → Int32} {m0 : Nat} {er eF sk : Nat → Int32} {tp kr kc n0 b0 : Nat} {v3 : Int32} {D0 : Nat → Nat} (X : CX p s mt meth c #[Value.ref z] G wsL_law RL cL_law 16 nm (fun q => s.heap.size ≤ q)) (hX : va_X z L xs s s.heap) (hbl : z < s.heap.size) (hLe : L ≤ 260) (hK : MK m0 n0 D0) (hb6 : b0 ≤ 60) (heF : eF b0 = nI (cN L xs 40 360)) (K : ∀ (H : Heap) (locs : List Loc) (ls : Array Slot), StD s G a ar ac (m0, eF, sk, [], (m0, eF, sk, 1), n0 + n0, tp, kr, kc) H locs → lv_has ls 16 [(12, .int (nI 0)), (7, .int (nI n0)), (3, .int v3), (1, .ref (a 0)), (0, .ref z)] → W p l e room_1 s mt #[Value.ref z] below meth c H locs 46 602 Q (F0 mt 1354 ls [])) {H : Heap} {locs : List Loc} {ls : Array Slot} (hS : StD s G a ar ac (m0, er, sk, [], (m0, eF, sk, 1), n0 + n0, tp, kr, kc) H locs) (hl : lv_has ls 16 [(7, .int (nI n0)), (6, .int (nI b0)), (3, .int v3), (1, .ref (a 0)), (0, .ref z)]) : W p l e room_1 s mt #[Value.ref z] below meth c H locs 46 602 Q (F0 mt 1280 ls []) := by
  obtain ⟨hx, hb, -⟩ := id X
  refine lv_aload_n hx hb dL_law_1280 rfl (lv_at hl 3 rfl) ?_
  refine r_undo0 (lg := [])   X hS hl.1 (Nat.le_of_ble_eq_true rfl) dL_law_1281 (fun H locs hS => ?_)
  refine lv_bipush (v := (-5)) hx hb dL_law_1284 (by decide) ?_
  refine lv_icmp_ne (tgt := 1349) hx hb dL_law_1286 (by decide) (fun h => absurd rfl h) (fun _ => ?_)
  refine lv_aload_n hx hb dL_law_1289 rfl (lv_at hl 3 rfl) ?_
  refine lv_iconst (v := nI 0) hx hb dL_law_1290 (by decide) ?_
  refine r_facts  (nI 0)  X hS hl.1 (Nat.le_of_ble_eq_true rfl) dL_law_1291 (fun H locs hS => ?_)
  refine x_cvi (y := nI n0) (by rw [fa_0, hK.2.1]) ?_
  refine lv_iload hx hb dL_law_1294 (lv_at hl 0 rfl) ?_
  refine lv_icmp_ne (tgt := 1349) hx hb dL_law_1296 (by decide) (fun h => absurd rfl h) (fun _ => ?_)
  refine lv_aload_n hx hb dL_law_1299 rfl (lv_at hl 3 rfl) ?_
  refine lv_iconst (v := nI 3) hx hb dL_law_1300 (by decide) ?_
  refine r_told  (nI 3)  X hS hl.1 (Nat.le_of_ble_eq_true rfl) dL_law_1301 (fun H locs hS => ?_)
  refine x_cvi (y := nI (2 * n0)) (by rw [td_3, Nat.two_mul]) ?_
  refine lv_iconst (v := nI 2) hx hb dL_law_1304 (by decide) ?_
  refine lv_iload hx hb dL_law_1305 (lv_at hl 0 rfl) ?_
  refine lv_imul hx hb dL_law_1307 ?_
  refine x_cvi (y := nI (2 * n0)) (pk_mul _ _) ?_
  refine lv_icmp_ne (tgt := 1349) hx hb dL_law_1308 (by decide) (fun h => absurd rfl h) (fun _ => ?_)
  refine lv_aload_n hx hb dL_law_1311 rfl (lv_at hl 3 rfl) ?_
  refine lv_iconst (v := nI 0) hx hb dL_law_1312 (by decide) ?_
  refine r_restore0   (show ¬ (1 : Int32) &&& 1 = 0 by decide) X hS hl.1 (Nat.le_of_ble_eq_true rfl) dL_law_1313 (fun H locs hS => ?_)
  have hS : StD s G a ar ac (m0, eF, sk, [], (m0, eF, sk, 1), n0 + n0, tp, kr, kc) H locs := by
    exact hS
  refine x_cvi (y := nI 1) (rfl) ?_
  refine lv_iconst (v := nI 1) hx hb dL_law_1316 (by decide) ?_
  refine lv_icmp_ne (tgt := 1349) hx hb dL_law_1317 (by decide) (fun h => absurd rfl h) (fun _ => ?_)
  refine lv_aload_n hx hb dL_law_1320 rfl (lv_at hl 3 rfl) ?_
  refine lv_bipush (v := nI 100) hx hb dL_law_1321 (by decide) ?_
  refine lv_iload hx hb dL_law_1323 (lv_at hl 1 rfl) ?_
  refine lv_iadd hx hb dL_law_1325 ?_
  refine x_cvi (y := nI (100 + b0)) (nI_add _ _) ?_
  refine r_told  (nI (100 + b0))  X hS hl.1 (Nat.le_of_ble_eq_true rfl) dL_law_1326 (fun H locs hS => ?_)
  refine x_cvi (y := nI (cN L xs 40 360)) (by rw [td_e hb6, heF]) ?_
  refine lv_aload_n hx hb dL_law_1329 rfl (lv_at hl 4 rfl) ?_
  refine lv_bipush (v := nI 40) hx hb dL_law_1330 (by decide) ?_
  refine lv_sipush (v := nI 360) hx hb dL_law_1332 (by decide) ?_
  refine r_cell 40 360 (by omega) (by omega) (by omega) X hX hbl hLe hS hl.1 (Nat.le_of_ble_eq_true rfl) dL_law_1335 (fun H locs hS => ?_)
  refine lv_icmp_ne (tgt := 1349) hx hb dL_law_1338 (by decide) (fun h => absurd rfl h) (fun _ => ?_)
  refine lv_aload_n hx hb dL_law_1341 rfl (lv_at hl 3 rfl) ?_
  refine lv_iconst (v := nI 0) hx hb dL_law_1342 (by decide) ?_
  refine r_told  (nI 0)  X hS hl.1 (Nat.le_of_ble_eq_true rfl) dL_law_1343 (fun H locs hS => ?_)
  refine x_cvi (y := nI 0) (td_0) ?_
  refine lv_if_eq (tgt := 1351) hx hb dL_law_1346 (by decide) (fun _ => ?_) (fun h => absurd rfl h)
  refine lv_iconst (v := nI 0) hx hb dL_law_1351 (by decide) ?_
  refine lv_istore (lv' := [(12, .int (nI 0)), (7, .int (nI n0)), (6, .int (nI b0)), (3, .int v3), (1, .ref (a 0)), (0, .ref z)]) hx hb dL_law_1352 hl (by decide) rfl (fun ls hl => ?_)
  exact K _ _ _ hS (lv_sub hl [0, 1, 3, 4, 5] rfl)
