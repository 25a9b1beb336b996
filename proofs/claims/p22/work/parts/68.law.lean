/-! The law from its entry to its end. -/
theorem in_of {big ws : List Cond} (ps : List Nat) (hp : ws = ps.filterMap (fun i => big[i]?)) : ∀ w ∈ ws, w ∈ big := by
  intro w hw
  rw [hp] at hw
  obtain ⟨i, -, hi⟩ := List.mem_filterMap.mp hw
  exact List.mem_of_getElem? hi
set_option maxHeartbeats 4000000 in
set_option maxRecDepth 100000 in
theorem ku_w : ∀ w ∈ Cond.arrayClass .int :: Cond.arrayOver (.object RX2) :: nwW, w ∈ lw_tbl := in_of [60, 87, 40, 243, 47, 352, 63, 99, 97, 103, 95, 100, 96, 104, 94, 102] (by decide +kernel)
theorem nwW_on : ∀ w ∈ nwW, w.onTables = true := List.all_eq_true.mp (by decide +kernel)
set_option maxHeartbeats 4000000 in
set_option maxRecDepth 100000 in
theorem ku_of {s : State} {args : Array Value} (hts : ∀ w ∈ lw_tbl, w.before args s = true) : ∃ G : GG, KU G s := by
  obtain ⟨c0, i0, h0⟩ := u_known (C := RX1) (T := TX1) (N := 3) (n := 3) hts inX1 (hts _ (List.mem_of_getElem? (i := 25) (by decide +kernel)))
  obtain ⟨c1, i1, h1⟩ := u_known (C := RX2) (T := TX2) (N := 5) (n := 5) hts inX2 (hts _ (List.mem_of_getElem? (i := 88) (by decide +kernel)))
  obtain ⟨c2, i2, h2⟩ := u_known (C := RX4) (T := TX4) (N := 4) (n := 4) hts inX4 (hts _ (List.mem_of_getElem? (i := 62) (by decide +kernel)))
  obtain ⟨c3, i3, h3⟩ := u_known (C := RX6) (T := TX6) (N := 4) (n := 4) hts inX6 (hts _ (List.mem_of_getElem? (i := 81) (by decide +kernel)))
  obtain ⟨c4, i4, h4⟩ := u_known (C := RX7) (T := TX7) (N := 9) (n := 9) hts inX7 (hts _ (List.mem_of_getElem? (i := 17) (by decide +kernel)))
  obtain ⟨dI, kI, pI, a1, a2, a3⟩ := Cond.arrayClass_spec (hts _ (ku_w _ List.mem_cons_self))
  have hao := hts _ (ku_w _ (List.mem_cons_of_mem _ List.mem_cons_self))
  obtain ⟨comp, dF, kF, f1, f2, f3, f4, f5⟩ := Cond.arrayOver_spec hao
  refine ⟨((fun k => if k = 0 then c0 else if k = 1 then c1 else if k = 2 then c2 else if k = 3 then c3 else c4, fun k => if k = 0 then i0 else if k = 1 then i1 else if k = 2 then i2 else if k = 3 then i3 else i4), dI, dI, dF), ⟨fun k q hq => ?_, fun k q hq => ?_⟩, fun w hw => va_Nw.of (nwW_on w hw) (hts w (ku_w w (List.mem_cons_of_mem _ (List.mem_cons_of_mem _ hw)))), va_AO.of hao⟩
  · match k, hq with
    | 0, hq => cases hq; exact h0
    | 1, hq => cases hq; exact h1
    | 2, hq => cases hq; exact h2
    | 3, hq => cases hq; exact h3
    | 4, hq => cases hq; exact h4
    | k + 5, hq => simp [vwCl] at hq
  · match k, hq with
    | 0, hq => cases hq; exact ⟨fun n y => ⟨fun k h => (by cases h), kI, a2, pI, a3⟩, a1⟩
    | 1, hq => cases hq; exact ⟨fun n y => ⟨fun k h => (by cases h), kI, a2, pI, a3⟩, a1⟩
    | 2, hq => cases hq; exact ⟨fun n y => ⟨fun k h => (by cases h), kF, f3, comp, f4⟩, kF, comp, f3, f4, f1, f5⟩
    | k + 3, hq => simp [gT] at hq
set_option maxHeartbeats 4000000 in
set_option maxRecDepth 100000 in
theorem xcIS {p : Program} {l : Launch} {e : Env} {R : Room} {s : State} {m : MethodId} {args : Array Value} {below : List Frame} {meth : Method} {c : Code} {H : Heap} {locs : List Loc} {cells slots : Nat} {Q : State → Prop} {cc : ByteArray} {pc : Nat} {ls : Array Slot} {rest : List Value} {G : GG} {A : Nat → Prop} {Ts : List Cond} {own : String} {nL : Nat} {nm : String} {y : MethodName} {wsy wsy' : List Cond} {rm : Room} {As : List Value} {wc : va_W} {Post : Option Value → va_W → Prop} {mc ms maxL index n : Nat} {bytes : ByteArray} {st : List Value}
    (X : CX p s m meth c args G Ts own cc nL nm A) {X0 : va_W} (hw : WS G A s.heap H locs (X0 ++ wc)) {b : Nat} (hC : CT l G y wsy rm (.ref b :: As) wc Post mc ms) (hG : GoodIn Ts wsy) (hini : Cond.initialized y.cls ∈ Ts) (hlk : Cond.methodLink own index y ∈ Ts) (hins : Cond.instanceMethod y ∈ Ts) (hy1 : y.name = "<init>") (hcode : wsy = Cond.code y bytes maxL none :: wsy') (hrm : rm.cells = mc ∧ rm.slots = ms) (hd : y.cls ≠ "java/lang/invoke/MethodHandle" ∧ y.cls ≠ "java/lang/invoke/VarHandle" ∧ (parseMethodDescriptor y.desc).map (fun d => d.parameters.length) = some n) (hR : rm.frames + 1 ≤ R.frames ∧ 8 + (maxL + 11) + rm.locals ≤ R.locals) (hn : As.length = n) (hl : ls.size = nL) (hst : st = As.reverse ++ .ref b :: rest) (hcat : (rest.map fun v => v.category).sum ≤ 8) (hdg : decode cc pc = .ok (.invokespecial index, 3)) (hf : cells + mc ≤ R.cells ∧ slots + ms ≤ R.slots)
    (kk : ∀ (r : Option Value) (w1 : va_W) (H1 : Heap) (locs1 : List Loc), Post r w1 → WS G A s.heap H1 locs1 (X0 ++ w1) → W p l e R s m args below meth c H1 locs1 (cells + mc) (slots + ms) Q (F0 m (pc + 3) ls (r.toList ++ rest))) : W p l e R s m args below meth c H locs cells slots Q (F0 m pc ls st) := xcI X hw hC hG hini hlk hins hy1 hcode hrm hd hR hn hl hst hcat hdg hf _ _ (ix_suf X0 wc) (ix_pre X0 wc) (nd_suf _ _) (nd_of _ List.nodup_range) (dis_suf _ _) kk
theorem imF_pos {im : Nat × (Nat → Int32) × (Nat → Int32) × Int32} {m n : Nat} {er sk : Nat → Int32} (h : 0 < n) : imF im m er sk n = (m, er, sk, 1) := by
  cases n with
  | zero => exact absurd h (Nat.lt_irrefl 0)
  | succ k => rfl
theorem dd_E {m n l b : Nat} {D0 : Nat → Nat} {er : Nat → Int32} (h : DD m n l b D0) : (∀ j, j < n → fa_fill (stE m) er 61 (D0 j) = 0) ∧ dE m (fa_fill (stE m) er 61) := by
  refine ⟨fun j hj => ?_, fun j hj => ?_⟩
  · have h1 := h.1.le hj
    rw [fa_fill_in (by omega)]
    unfold stE
    rw [if_pos (h.1.tb hj)]
  · rw [fa_fill_in (by omega)]
    unfold stE
    by_cases c : m.testBit j = true
    · rw [if_pos c, c]
      exact ⟨fun q => absurd q (by decide), fun q => by cases q⟩
    · rw [if_neg c]
      exact ⟨fun _ => by simpa using c, fun _ => rfl⟩
set_option maxHeartbeats 4000000 in
set_option maxRecDepth 100000 in
theorem law_all {p : Program} {l : Launch} {e : Env} {s : State} {mt : MethodId} {z : Nat} {below : List Frame} {meth : Method} {c : Code} {G : GG} {nm : String} {Q : State → Prop} {a ar ac : Nat → Nat} {L : Nat} {xs : Nat → Int32} {im : Nat × (Nat → Int32) × (Nat → Int32) × Int32} {er eI : Nat → Int32} {fr lq b0 sl at0 m0 n0 : Nat} {D0 : Nat → Nat} (X : CX p s mt meth c #[Value.ref z] G wsL_law RL cL_law 16 nm (fun q => s.heap.size ≤ q)) (hX : va_X z L xs s s.heap) (hbl : z < s.heap.size) (hLe : L ≤ 260) (him : im.2.2.2 = 0) (e1 : cN L xs 0 6 = fr) (e2 : 3 + cN L xs 1 18 = lq) (e3 : cN L xs 2 (61 - lq) = b0) (e4 : cN L xs 60 360 = sl) (e5 : cN L xs 70 49 = at0) (hm0 : (resT 1 lq).2.2.2 * 2 ^ b0 = m0) (hn0 : dueC lq = n0) (hD : DD m0 n0 lq b0 D0) (heI : fa_fill (stE m0) er 61 = eI) (K : ∀ (H : Heap) (locs : List Loc) (ls : Array Slot) (S : SS), StD s G a ar ac S H locs → W p l e room_1 s mt #[Value.ref z] below meth c H locs 46 602 Q (F0 mt 1682 ls [.int (nI 1)])) {H : Heap} {locs : List Loc} {ls : Array Slot} (hS : StD s G a ar ac (0, er, fun _ => 0, [], im, 0, 0, 0, 0) H locs) (hl : lv_has ls 16 [(1, .ref (a 0)), (0, .ref z)]) : W p l e room_1 s mt #[Value.ref z] below meth c H locs 46 602 Q (F0 mt 8 ls []) := by
  obtain ⟨hx, hb, -⟩ := id X
  obtain ⟨hK, hre, hsp, hx0, hxn, hn3, hn8, hl3, hl20, hbl6⟩ := id hD
  obtain ⟨h0, hdE⟩ := dd_E (er := er) hD
  rw [heI] at h0 hdE
  have hn0p : 0 < n0 := by omega
  have hfr : fr < 6 := by rw [← e1]; exact cN_lt (by decide)
  have hb6 : b0 ≤ 60 := by omega
  have hsl6 : sl < 360 := by rw [← e4]; exact cN_lt (by decide)
  have hat : at0 < 49 := by rw [← e5]; exact cN_lt (by decide)
  have hszA : ∀ x, sF (fSk L xs) zN (lq + 1) x < 360 := sF_lt (fun x => cN_lt (by decide)) (fun x => by show 0 < 360; decide)
  have hszB : ∀ x, sF (fSl sl) (sF (fSk L xs) zN (lq + 1)) (lq + 1) x < 360 := sF_lt (fun x => Nat.mod_lt _ (by decide)) hszA
  have hszS : ∀ d, 1 ≤ d → d ≤ lq → sF (fSl sl) (sF (fSk L xs) zN (lq + 1)) (lq + 1) d = sl * d % 360 := fun d h1 h2 => sF_in h1 (by omega)
  have herE : ∀ j, j < n0 → hE D0 (vB L xs) eI n0 (D0 j) = nI (fEr L xs j) ∧ fEr L xs j < 360 := fun j hj => ⟨by rw [hE_at hK hj n0 (Nat.le_refl n0), if_pos hj]; rfl, cN_lt (by decide)⟩
  have hdE2 : dE m0 (hE D0 (vB L xs) eI n0) := by
    have q := hE_dE (S := D0) (v := vB L xs) hdE n0
    rw [hM_same hK (fun j => vB_ne j) n0 (Nat.le_refl n0)] at q
    exact q
  have heF : hE D0 (vB L xs) eI n0 b0 = nI (cN L xs 40 360) := by
    have q := (herE 0 hn0p).1
    rw [hx0] at q
    exact q
  have hM0 : hM (sS D0 n0 at0) (vS n0) m0 n0 = 0 := (hM_MK hK sS_1 vS_1 n0 0 rfl).zero
  obtain ⟨lg0, hlg0⟩ : ∃ q : Nat, (n0 ≤ 3 ∧ q = 15) ∨ (3 < n0 ∧ q = 16) := by
    rcases Nat.lt_or_ge 3 n0 with q | q
    · exact ⟨16, Or.inr ⟨q, rfl⟩⟩
    · exact ⟨15, Or.inl ⟨q, rfl⟩⟩
  have hcf : cF n0 12 = lg0 := by
    unfold cF
    rcases hlg0 with ⟨q1, q2⟩ | ⟨q1, q2⟩
    · rw [Nat.min_eq_left (by omega)]; omega
    · rw [Nat.min_eq_right (by omega)]; omega
  have hlg6 : lg0 ≤ n0 + 12 := by omega
  have hlg7 : lg0 ≤ 16 := by omega
  have hs6 : ∀ k, k < n0 + 12 → sS D0 n0 at0 k ≤ 60 := fun k hk => by
    rcases Nat.lt_or_ge k n0 with q | q
    · rw [sS_1 k q]
      exact hK.le q
    · have e := sS_2 (D0 := D0) (n0 := n0) (at0 := at0) (k - n0)
      rw [show n0 + (k - n0) = k by omega] at e
      rw [e]
      omega
  have hme : pcN 64 (hM (sS D0 n0 at0) (vS n0) m0 (n0 + 12 - lg0)) = (if 3 < n0 then 4 else n0) := by
    rcases hlg0 with ⟨q1, q2⟩ | ⟨q1, q2⟩
    · rw [show n0 + 12 - lg0 = 0 by omega, if_neg (by omega)]
      exact hK.2.1
    · rw [show n0 + 12 - lg0 = n0 - 4 by omega, if_pos q1]
      exact (hM_MK hK sS_1 vS_1 (n0 - 4) 4 (by omega)).2.1
  refine lv_aload_n hx hb dL_law_8 rfl (lv_at hl 1 rfl) ?_
  refine lv_iconst (v := nI 0) hx hb dL_law_9 (by decide) ?_
  refine lv_bipush (v := nI 6) hx hb dL_law_10 (by decide) ?_
  refine r_cell 0 6 (by omega) (by omega) (by omega) X hX hbl hLe hS hl.1 (Nat.le_of_ble_eq_true rfl) dL_law_12 (fun H locs hS => ?_)
  refine x_cvi (y := nI fr) (congrArg nI e1) ?_
  refine lv_istore_n (lv' := [(2, .int (nI fr)), (1, .ref (a 0)), (0, .ref z)]) hx hb dL_law_15 rfl hl (by decide) rfl (fun ls hl => ?_)
  refine lv_iconst (v := nI 0) hx hb dL_law_16 (by decide) ?_
  refine x_cvi (y := nI (ttR (krF fr 0))) (congrArg nI (show 0 = ttR (krF fr 0) from kcF_e.2.2.2.2.2.2.symm)) ?_
  refine lv_istore_n (lv' := [(3, .int (nI (ttR (krF fr 0)))), (2, .int (nI fr)), (1, .ref (a 0)), (0, .ref z)]) hx hb dL_law_17 rfl hl (by decide) rfl (fun ls hl => ?_)
  refine lv_iconst (v := nI 0) hx hb dL_law_18 (by decide) ?_
  refine lv_istore (lv' := [(4, .int (nI 0)), (3, .int (nI (ttR (krF fr 0)))), (2, .int (nI fr)), (1, .ref (a 0)), (0, .ref z)]) hx hb dL_law_19 hl (by decide) rfl (fun ls hl => ?_)
  have hS : StD s G a ar ac (0, er, fun _ => 0, [], im, 0, 0, krF fr 0, 0) H locs := hS
  refine law_b1 X hX hbl hLe (hfr) (fun H locs ls hS hl => ?_) 12 0 rfl H locs ls hS (lv_sub hl [0, 1, 2, 3, 4] rfl)
  rw [krF_e fr hfr] at hS hl
  rw [kcF_e.2.2.1] at hl
  have hl : lv_has ls 16 [(3, .int (nI 43348)), (1, .ref (a 0)), (0, .ref z)] := lv_sub hl [1, 3, 4] rfl
  have hS : StD s G a ar ac (0, er, fun _ => 0, [], im, 0, 0, 252, 0) H locs := hS
  refine law_b2 X hX hbl hLe  (fun H locs ls hS hl => ?_) hS (lv_sub hl [0, 1, 2] rfl)
  have hl : lv_has ls 16 [(5, .int (nI (0 + 1))), (4, .int (nI (lastC 0))), (3, .int (nI (43348 + ttC (kcF 0)))), (1, .ref (a 0)), (0, .ref z)] := by
    rw [show ttC (kcF 0) = 0 from kcF_e.2.2.2.2.2.1]
    exact hl
  have hS : StD s G a ar ac (0, er, fun _ => 0, [], im, 0, 0, 252, kcF 0) H locs := hS
  refine law_b3 X hX hbl hLe  (fun H locs ls hS hl => ?_) 20 0 rfl H locs ls hS (lv_sub hl [0, 1, 2, 3, 4] rfl)
  rw [kcF_e.1] at hS hl
  rw [kcF_e.2.2.2.1] at hl
  have hl : lv_has ls 16 [(3, .int (nI 173631)), (1, .ref (a 0)), (0, .ref z)] := lv_sub hl [2, 3, 4] rfl
  have hS : StD s G a ar ac (0, er, fun _ => 0, [], im, 0, 0, 252, 2097150) H locs := hS
  refine law_b4 (lq := lq) (b0 := b0) (n0 := n0) (m0 := m0) (D0 := D0) X hX hbl hLe (e2) (e3) (hm0) (hn0) (hD) (fun H locs ls hS hl => ?_) hS (lv_sub hl [0, 1, 2] rfl)
  rw [heI] at hS
  have hS : StD s G a ar ac (m0, eI, fun _ => 0, [], im, 0, 0, 252, 2097150) H locs := hS
  have hS : StD s G a ar ac (m0, eI, fun x => nI (sF (fSk L xs) zN (0 + 1) x), [], im, 0, 0, 252, 2097150) H locs := by
    rw [show (fun x => nI (sF (fSk L xs) zN (0 + 1) x)) = (fun _ => (0 : Int32)) from funext (fun x => by rw [sF_0 (Nat.le_refl 1)]; rfl)]
    exact hS
  refine law_b5 X hX hbl hLe (hl20) (fun H locs ls hS hl => ?_) lq 0 (Nat.zero_add lq) H locs ls hS (lv_sub hl [0, 1, 2, 3, 4, 5, 6] rfl)
  refine lv_iconst (v := nI 0) hx hb dL_law_680 (by decide) ?_
  refine lv_istore (lv' := [(8, .int (nI 0)), (7, .int (nI n0)), (6, .int (nI b0)), (5, .int (nI lq)), (3, .int (nI 173631)), (1, .ref (a 0)), (0, .ref z)]) hx hb dL_law_681 hl (by decide) rfl (fun ls hl => ?_)
  refine lv_iconst (v := nI 0) hx hb dL_law_683 (by decide) ?_
  refine lv_istore (lv' := [(9, .int (nI 0)), (8, .int (nI 0)), (7, .int (nI n0)), (6, .int (nI b0)), (5, .int (nI lq)), (3, .int (nI 173631)), (1, .ref (a 0)), (0, .ref z)]) hx hb dL_law_684 hl (by decide) rfl (fun ls hl => ?_)
  refine law_b6i (y0 := nI 0) (sz := (sF (fSk L xs) zN (lq + 1))) (D0 := D0) (ff := fun _ => 0) X hX hbl hLe (hK) (hn8) (fun _ => rfl) (hszA) (fun j hj => ⟨by rw [h0 j hj]; rfl, (by show 0 < 360; decide)⟩) (fun H locs ls hS hl => ?_) n0 0 (Nat.zero_add n0) H locs ls hS (lv_sub hl [0, 1, 2, 3, 4, 5, 6, 7] rfl)
  refine lv_iconst (v := nI 0) hx hb dL_law_761 (by decide) ?_
  refine lv_istore (lv' := [(9, .int (nI 0)), (8, .int (fI (gD (sF (fSk L xs) zN (lq + 1)) D0) n0 n0 (nI 0))), (7, .int (nI n0)), (6, .int (nI b0)), (5, .int (nI lq)), (3, .int (nI 173631)), (1, .ref (a 0)), (0, .ref z)]) hx hb dL_law_762 hl (by decide) rfl (fun ls hl => ?_)
  have hS : StD s G a ar ac (m0, hE D0 (vB L xs) eI 0, fun x => nI (sF (fSk L xs) zN (lq + 1) x), hL D0 (vB L xs) eI 0 0, im, 0, lq + 0, 252, 2097150) H locs := hS
  refine law_b7 X hX hbl hLe (hK) (hn8) (h0) (fun H locs ls hS hl => ?_) n0 0 (Nat.zero_add n0) H locs ls hS (lv_sub hl [0, 1, 2, 3, 4, 5, 6, 7] rfl)
  refine lv_iconst (v := nI 0) hx hb dL_law_804 (by decide) ?_
  refine lv_istore (lv' := [(9, .int (nI 0)), (8, .int (fI (gD (sF (fSk L xs) zN (lq + 1)) D0) n0 n0 (nI 0))), (7, .int (nI n0)), (6, .int (nI b0)), (5, .int (nI lq)), (3, .int (nI 173631)), (1, .ref (a 0)), (0, .ref z)]) hx hb dL_law_805 hl (by decide) rfl (fun ls hl => ?_)
  refine lv_iconst (v := nI 0) hx hb dL_law_807 (by decide) ?_
  refine lv_istore (lv' := [(10, .int (nI 0)), (9, .int (nI 0)), (8, .int (fI (gD (sF (fSk L xs) zN (lq + 1)) D0) n0 n0 (nI 0))), (7, .int (nI n0)), (6, .int (nI b0)), (5, .int (nI lq)), (3, .int (nI 173631)), (1, .ref (a 0)), (0, .ref z)]) hx hb dL_law_808 hl (by decide) rfl (fun ls hl => ?_)
  refine law_b8i (y0 := nI 0) (sz := (sF (fSk L xs) zN (lq + 1))) (D0 := D0) (ff := fEr L xs) X hX hbl hLe (hK) (hn8) (fun _ => rfl) (hszA) (herE) (fun H locs ls hS hl => ?_) n0 0 (Nat.zero_add n0) H locs ls hS (lv_sub hl [0, 1, 3, 2, 4, 5, 6, 7, 8] rfl)
  refine law_b9 X hX hbl hLe (hL_len _ _) (e4) (fun H locs ls hS hl => ?_) hS (lv_sub hl [1, 3, 2, 4, 5, 6, 7, 8] rfl)
  have hS : StD s G a ar ac (m0, hE D0 (vB L xs) eI n0, fun x => nI (sF (fSl sl) (sF (fSk L xs) zN (lq + 1)) (0 + 1) x), hL D0 (vB L xs) eI n0 n0, im, 0, lq + n0 + 0, 252, 2097150) H locs := by
    rw [show (fun x => nI (sF (fSl sl) (sF (fSk L xs) zN (lq + 1)) (0 + 1) x)) = (fun x => nI (sF (fSk L xs) zN (lq + 1) x)) from funext (fun x => by rw [sF_0 (Nat.le_refl 1)])]
    exact hS
  refine law_b10 (sz := (sF (fSk L xs) zN (lq + 1))) (t0 := lq + n0) X hX hbl hLe (hl20) (hsl6) (hszA) (fun H locs ls hS hl => ?_) lq 0 (Nat.zero_add lq) H locs ls hS (lv_sub hl [0, 1, 2, 3, 4, 5, 6, 7] rfl)
  refine lv_iconst (v := nI 2) hx hb dL_law_965 (by decide) ?_
  refine lv_istore (lv' := [(11, .int (nI 2)), (10, .int (nI sl)), (7, .int (nI n0)), (6, .int (nI b0)), (5, .int (nI lq)), (3, .int (nI 173631)), (1, .ref (a 0)), (0, .ref z)]) hx hb dL_law_966 hl (by decide) rfl (fun ls hl => ?_)
  refine law_b11 (sl := sl) (sz := (sF (fSl sl) (sF (fSk L xs) zN (lq + 1)) (lq + 1))) (ff := fEr L xs) X hX hbl hLe (hD) (fun _ => rfl) (hszB) (herE) (hszS) (fun H locs ls hS hl => ?_) (n0 - 2) 0 (Nat.zero_add _) H locs ls hS (lv_sub hl [0, 2, 3, 4, 5, 6, 7] rfl)
  refine lv_bipush (v := nI 99) hx hb dL_law_1032 (by decide) ?_
  refine lv_istore (lv' := [(11, .int (nI 99)), (7, .int (nI n0)), (6, .int (nI b0)), (5, .int (nI lq)), (3, .int (nI 173631)), (1, .ref (a 0)), (0, .ref z)]) hx hb dL_law_1034 hl (by decide) rfl (fun ls hl => ?_)
  refine lv_iconst (v := nI 0) hx hb dL_law_1036 (by decide) ?_
  refine lv_istore (lv' := [(12, .int (nI 0)), (11, .int (nI 99)), (7, .int (nI n0)), (6, .int (nI b0)), (5, .int (nI lq)), (3, .int (nI 173631)), (1, .ref (a 0)), (0, .ref z)]) hx hb dL_law_1037 hl (by decide) rfl (fun ls hl => ?_)
  have hS : StD s G a ar ac (m0, hE D0 (vB L xs) eI n0, fun x => nI (sF (fSl sl) (sF (fSk L xs) zN (lq + 1)) (lq + 1) x), hL D0 (vB L xs) eI n0 n0, imF im m0 (hE D0 (vB L xs) eI n0) (fun x => nI (sF (fSl sl) (sF (fSk L xs) zN (lq + 1)) (lq + 1) x)) 0, 0, lq + n0 + lq, 252, 2097150) H locs := hS
  refine law_b12 X hX hbl hLe (hD) (hdE2) (hL_len _ _) (him) (fun H locs ls hS hl => ?_) n0 0 (Nat.zero_add n0) H locs ls hS (lv_sub hl [0, 1, 2, 3, 4, 5, 6, 7] rfl)
  refine law_b13 X hX hbl hLe (hD) (fun H locs ls hS hl => ?_) hS (lv_sub hl [1, 2, 3, 4, 5, 6, 7] rfl)
  have hS : StD s G a ar ac (m0, hE D0 (vB L xs) eI (n0 - 0), fun x => nI (sF (fSl sl) (sF (fSk L xs) zN (lq + 1)) (lq + 1) x), hL D0 (vB L xs) eI (n0 - 0) (n0 - 0), imF im m0 (hE D0 (vB L xs) eI n0) (fun x => nI (sF (fSl sl) (sF (fSk L xs) zN (lq + 1)) (lq + 1) x)) n0, n0 + 0, lq + n0 + lq, 252, 2097150) H locs := hS
  refine law_b14 X hX hbl hLe (hK) (hn8) (h0) (fun H locs ls hS hl => ?_) n0 0 (Nat.zero_add n0) H locs ls hS (lv_sub hl [0, 1, 2, 3, 4, 5] rfl)
  rw [Nat.sub_self, imF_pos hn0p] at hS
  have hS : StD s G a ar ac (m0, hE D0 (vB L xs) eI 0, fun x => nI (sF (fSl sl) (sF (fSk L xs) zN (lq + 1)) (lq + 1) x), [], (m0, hE D0 (vB L xs) eI n0, fun x => nI (sF (fSl sl) (sF (fSk L xs) zN (lq + 1)) (lq + 1) x), 1), n0 + n0, lq + n0 + lq, 252, 2097150) H locs := hS
  refine law_b15 (eF := hE D0 (vB L xs) eI n0) X hX hbl hLe (hK) (hb6) (heF) (fun H locs ls hS hl => ?_) hS (lv_sub hl [1, 2, 3, 4, 5] rfl)
  obtain ⟨eF, hef⟩ : ∃ f : Nat → Int32, hE D0 (vB L xs) eI n0 = f := ⟨_, rfl⟩
  rw [hef] at hS hdE2
  have hS : StD s G a ar ac (hM (sS D0 n0 at0) (vS n0) m0 0, hE (sS D0 n0 at0) (vS n0) eF 0, fun x => nI (sF (fSl sl) (sF (fSk L xs) zN (lq + 1)) (lq + 1) x), hL (sS D0 n0 at0) (vS n0) eF 0 0, (m0, eF, fun x => nI (sF (fSl sl) (sF (fSk L xs) zN (lq + 1)) (lq + 1) x), 1), n0 + n0, lq + n0 + lq, 252, 2097150) H locs := hS
  refine law_b16 (at0 := at0) X hX hbl hLe (hK) (hn8) (fun H locs ls hS hl => ?_) n0 0 (Nat.zero_add n0) H locs ls hS (lv_sub hl [0, 1, 2, 3, 4] rfl)
  refine law_b17 (lg0 := lg0) X hX hbl hLe (e5) (hn8) (hlg0) (fun H locs ls hS hl => ?_) hS (lv_sub hl [1, 2, 3, 4] rfl)
  have hS : StD s G a ar ac (hM (sS D0 n0 at0) (vS n0) m0 (n0 + 0), hE (sS D0 n0 at0) (vS n0) eF (n0 + 0), fun x => nI (sF (fSl sl) (sF (fSk L xs) zN (lq + 1)) (lq + 1) x), hL (sS D0 n0 at0) (vS n0) eF (cF n0 0) (n0 + 0), (m0, eF, fun x => nI (sF (fSl sl) (sF (fSk L xs) zN (lq + 1)) (lq + 1) x), 1), n0 + n0, lq + n0 + lq, 252, 2097150) H locs := by
    rw [show cF n0 0 = n0 from Nat.min_eq_left (by omega)]
    exact hS
  refine law_b18 X hX hbl hLe (hM0) (hat) (fun H locs ls hS hl => ?_) 12 0 rfl H locs ls hS (lv_sub hl [0, 1, 2, 3, 4, 5, 6] rfl)
  rw [hM_row hat hM0 sS_2 vS_2 12 (by decide)] at hS
  have hS : StD s G a ar ac (rw12 12 at0, hE (sS D0 n0 at0) (vS n0) eF (n0 + 12), fun x => nI (sF (fSl sl) (sF (fSk L xs) zN (lq + 1)) (lq + 1) x), hL (sS D0 n0 at0) (vS n0) eF (cF n0 12) (n0 + 12), (m0, eF, fun x => nI (sF (fSl sl) (sF (fSk L xs) zN (lq + 1)) (lq + 1) x), 1), n0 + n0, lq + n0 + lq, 252, 2097150) H locs := hS
  refine law_b19 X hX hbl hLe (hat) (by rw [hL_len]; exact hcf) (fun H locs ls hS hl => ?_) hS (lv_sub hl [1, 2, 3, 4, 5, 6] rfl)
  rw [← hM_row hat hM0 sS_2 vS_2 12 (by decide), hcf] at hS
  have hS : StD s G a ar ac (hM (sS D0 n0 at0) (vS n0) m0 (n0 + 12 - 0), hE (sS D0 n0 at0) (vS n0) eF (n0 + 12 - 0), fun x => nI (sF (fSl sl) (sF (fSk L xs) zN (lq + 1)) (lq + 1) x), hL (sS D0 n0 at0) (vS n0) eF (lg0 - 0) (n0 + 12 - 0), (m0, eF, fun x => nI (sF (fSl sl) (sF (fSk L xs) zN (lq + 1)) (lq + 1) x), 1), n0 + n0 + 0, lq + n0 + lq, 252, 2097150) H locs := hS
  refine law_b20 X hX hbl hLe (hdE2) (hs6) (hlg6) (hlg7) (fun H locs ls hS hl => ?_) lg0 0 (Nat.zero_add lg0) H locs ls hS (lv_sub hl [0, 1, 2, 3, 4, 5] rfl)
  rw [Nat.sub_self, ← Nat.two_mul] at hS
  have hS : StD s G a ar ac (hM (sS D0 n0 at0) (vS n0) m0 (n0 + 12 - lg0), hE (sS D0 n0 at0) (vS n0) eF (n0 + 12 - lg0), fun x => nI (sF (fSl sl) (sF (fSk L xs) zN (lq + 1)) (lq + 1) x), [], (m0, eF, fun x => nI (sF (fSl sl) (sF (fSk L xs) zN (lq + 1)) (lq + 1) x), 1), 2 * n0 + lg0, lq + n0 + lq, 252, 2097150) H locs := hS
  refine law_b21 X hX hbl hLe (hn8) (hme) (fun H locs ls hS hl => ?_) hS (lv_sub hl [1, 2, 3, 4, 5] rfl)
  exact K _ _ _ _ hS
set_option maxHeartbeats 4000000 in
set_option maxRecDepth 100000 in
theorem whole_start {p : Program} {e : Env} {s : State} {m : MethodId} {below : List Frame} {meth : Method} {c : Code} (l : Launch) (hflags : l.flags = flags0) {b L : Nat} {xs : Nat → Int32} (hL : L ≤ 260) (C0 : lw_At p s m meth c b L xs) : W p l e room_1 s m #[Value.ref b] below meth c s.heap [] 0 0 (lw_Z below #[Value.ref b] s) (entryFrame m ([Value.ref b] : List Value).toArray 16) := by
  obtain ⟨hx, hb, hr, hml, hown, hts, hX, hbl, hlocks, hgv⟩ := id C0
  obtain ⟨G, hK⟩ := ku_of hts
  have X : CX p s m meth c #[Value.ref b] G wsL_law RL cL_law 16 meth.name (fun q => s.heap.size ≤ q) := ⟨hx, hb, hml, hown, fun w h => hts w (wsL_law_in w h), hK, fun q h => h, rfl⟩
  have hw : WS G (fun q => s.heap.size ≤ q) s.heap s.heap [] [] := ⟨fun k q h => by simp at h, ⟨fun i j p q h => by simp at h, fun k q h => by simp at h⟩, va_S.rf⟩
  have hl := lv_entry ([.ref b]) (n := 16) (Nat.le_of_ble_eq_true rfl)
  rw [lg_entry_eq]
  generalize (lg_sl ([.ref b]) ++ List.replicate (16 - (lg_sl ([.ref b])).length) Slot.unset).toArray = ls at hl ⊢
  have hl : lv_has ls 16 [(0, .ref b)] := hl
  refine xnew X hw (C := RX7) (T := TX7) (N := 9) (ci := 4) inlX7 tyX7 tyX7_ok (by decide +kernel) (by decide +kernel) (by decide +kernel) rfl (fs := [.null, .null, .null, .null, .null, .null, .int (nI 0), .int (nI 0), .int (nI 0)]) (fun j hj => by rcases (show j = 0 ∨ j = 1 ∨ j = 2 ∨ j = 3 ∨ j = 4 ∨ j = 5 ∨ j = 6 ∨ j = 7 ∨ j = 8 by omega) with rfl | rfl | rfl | rfl | rfl | rfl | rfl | rfl | rfl <;> rfl) ⟨Nat.le_of_ble_eq_true rfl, Nat.le_of_ble_eq_true rfl⟩ dL_law_0 (fun xo H hw => ?_)
  refine lv_dup hx hb dL_law_3 rfl ?_
  refine xcIS (n := 0) (As := []) (rest := [.ref xo]) (X0 := []) (wc := [(xo, .inr (4, [.null, .null, .null, .null, .null, .null, .int (nI 0), .int (nI 0), .int (nI 0)]))]) X hw (c_X7_init l G xo) gL_law_X7_init (by decide +kernel) (by decide +kernel) (by decide +kernel) rfl rfl ⟨rfl, rfl⟩ (by decide +kernel) ⟨Nat.le_of_ble_eq_true rfl, Nat.le_of_ble_eq_true rfl⟩ rfl hl.1 rfl (Nat.le_of_ble_eq_true rfl) dL_law_4 ⟨Nat.le_of_ble_eq_true rfl, Nat.le_of_ble_eq_true rfl⟩ (fun r w1 H locs hp hw => ?_)
  obtain ⟨rfl, d, e0, k0, i1, f1, h1, i2, f2, h2, g, s0, b0, ru, r1, co, r2, ar, ac, hw1⟩ := hp
  have hcw : w1 = cW G (fun j => [xo, d, e0, k0, i1, f1, h1, i2, f2, h2, g, s0, b0, ru, r1, co, r2].getD j 0) ar ac 0 (fa_fill (stE 0) (fun _ => 0) 61) (fun _ => 0) 0 (fa_fill (stE 0) (fun _ => 0) 61) (fun _ => 0) 0 (fa_fill (stE 0) (fun _ => 0) 61) (fun _ => 0) (fun _ => 0) (fun _ => 0) 0 ([] : List (Nat × Int32)).length (nI 0) (nI 0) (nI 0) 0 0 := hw1
  clear hw1
  refine W.eq (g2 := F0 m 7 ls [.ref xo]) rfl ?_
  refine lv_astore_n (lv' := [(1, .ref xo), (0, .ref b)]) hx hb dL_law_7 rfl hl (by decide) rfl (fun ls hl => ?_)
  have hS : StD s G (fun j => [xo, d, e0, k0, i1, f1, h1, i2, f2, h2, g, s0, b0, ru, r1, co, r2].getD j 0) ar ac (0, (fa_fill (stE 0) (fun _ => 0) 61), (fun _ => 0), [], (0, (fa_fill (stE 0) (fun _ => 0) 61), (fun _ => 0), 0), 0, 0, 0, 0) H locs := ⟨w1, hw, 0, _, fun _ => 0, fun _ => 0, fun _ => 0, 0, hcw, (by show 0 < 2 ^ 61; decide), (by show 0 < 2 ^ 61; decide), by decide, Nat.zero_le _, trivial, (fun q hq => absurd hq List.not_mem_nil), (by show 0 < 2 ^ 8; decide), (by show 0 < 2 ^ 21; decide)⟩
  have h18 : cN L xs 1 18 < 18 := cN_lt (by decide)
  have h61 : cN L xs 2 (61 - (3 + cN L xs 1 18)) < 61 - (3 + cN L xs 1 18) := cN_lt (by omega)
  refine law_all (a := (fun j => [xo, d, e0, k0, i1, f1, h1, i2, f2, h2, g, s0, b0, ru, r1, co, r2].getD j 0)) (ar := ar) (ac := ac) (im := (0, (fa_fill (stE 0) (fun _ => 0) 61), (fun _ => 0), 0)) (er := (fa_fill (stE 0) (fun _ => 0) 61)) (D0 := fun j => cN L xs 2 (61 - (3 + cN L xs 1 18)) + cvX (tb1 (3 + cN L xs 1 18)).2.2.2 j) X hX hbl hL rfl rfl rfl rfl rfl rfl rfl rfl (by rw [resT_c (by omega) (by omega)]; exact dd_of (by omega) (by omega) (by omega)) rfl (fun H locs ls S hS => ?_) hS hl
  obtain ⟨w, hw, -⟩ := hS
  refine va_forget (fun q hq => hw.2.2.2.2 q hq) ?_
  refine W.widen (k := 600000) (n := 7302250) (Nat.le_of_ble_eq_true rfl) (Nat.le_of_ble_eq_true rfl) ?_
  exact lw_ret hx hb hr hlocks dL_law_1682
