def tdR (er sk : Nat → Int32) (cn kr kc : Nat) (t1 t2 un tp x : Int32) : Int32 := if inS (x - 100) = true then erX er (x - 100) else if inL (x - 200) = true then skX sk (x - 200) else if x = 0 then nI cn else if x = 1 then nI (pcN 32 kr) + nI (pcN 32 kc) else if x = 2 then t1 + t2 else if x = 3 then un else if x = 4 then nI kr else if x = 5 then nI kc else if x = 6 then tp else -2
/-- what is known of all that is found, by the tables -/
def resOk (z : Nat × Nat × Nat × Nat) : Bool := decide (z.2.2.2 < 2 ^ (spN z.2.2.2 + 1)) && (decide (z.1 < 100) && (decide (z.2.1 < 1000) && decide (0 < z.2.1)))
theorem resOk_r : ∀ n, 2 ≤ n → n ≤ 7 → resOk (resT 0 n) = true := by
  intro n h1 h2
  have h : n = 2 ∨ n = 3 ∨ n = 4 ∨ n = 5 ∨ n = 6 ∨ n = 7 := by omega
  rcases h with rfl | rfl | rfl | rfl | rfl | rfl
  · rw [res_r, rTab_2]; decide +kernel
  · rw [res_r, rTab_3]; decide +kernel
  · rw [res_r, rTab_4]; decide +kernel
  · rw [res_r, rTab_5]; decide +kernel
  · rw [res_r, rTab_6]; decide +kernel
  · rw [res_r, rTab_7]; decide +kernel
theorem resOk_c : ∀ n, 1 ≤ n → n ≤ 20 → resOk (resT 1 n) = true := by
  intro n h1 h2
  have h : n = 1 ∨ n = 2 ∨ n = 3 ∨ n = 4 ∨ n = 5 ∨ n = 6 ∨ n = 7 ∨ n = 8 ∨ n = 9 ∨ n = 10 ∨ n = 11 ∨ n = 12 ∨ n = 13 ∨ n = 14 ∨ n = 15 ∨ n = 16 ∨ n = 17 ∨ n = 18 ∨ n = 19 ∨ n = 20 := by omega
  rcases h with rfl | rfl | rfl | rfl | rfl | rfl | rfl | rfl | rfl | rfl | rfl | rfl | rfl | rfl | rfl | rfl | rfl | rfl | rfl | rfl
  · rw [res_c, cTab_1]; decide +kernel
  · rw [res_c, cTab_2]; decide +kernel
  · rw [res_c, cTab_3]; decide +kernel
  · rw [res_c, cTab_4]; decide +kernel
  · rw [res_c, cTab_5]; decide +kernel
  · rw [res_c, cTab_6]; decide +kernel
  · rw [res_c, cTab_7]; decide +kernel
  · rw [res_c, cTab_8]; decide +kernel
  · rw [res_c, cTab_9]; decide +kernel
  · rw [res_c, cTab_10]; decide +kernel
  · rw [res_c, cTab_11]; decide +kernel
  · rw [res_c, cTab_12]; decide +kernel
  · rw [res_c, cTab_13]; decide +kernel
  · rw [res_c, cTab_14]; decide +kernel
  · rw [res_c, cTab_15]; decide +kernel
  · rw [res_c, cTab_16]; decide +kernel
  · rw [res_c, cTab_17]; decide +kernel
  · rw [res_c, cTab_18]; decide +kernel
  · rw [res_c, cTab_19]; decide +kernel
  · rw [res_c, cTab_20]; decide +kernel
theorem resOk_lt {z : Nat × Nat × Nat × Nat} (h : resOk z = true) : z.2.2.2 < 2 ^ 61 := by
  unfold resOk at h
  rw [Bool.and_eq_true, decide_eq_true_eq] at h
  exact Nat.lt_of_lt_of_le h.1 (Nat.pow_le_pow_right (by decide) (by have := spN_le z.2.2.2; omega))
theorem resOk_sh {z : Nat × Nat × Nat × Nat} (h : resOk z = true) {b : Nat} (hb : spN z.2.2.2 + b ≤ 60) : z.2.2.2 * 2 ^ b < 2 ^ 61 := by
  unfold resOk at h
  rw [Bool.and_eq_true, decide_eq_true_eq] at h
  have h2 : 2 ^ (spN z.2.2.2 + 1) * 2 ^ b ≤ 2 ^ 61 := by rw [← Nat.pow_add]; exact Nat.pow_le_pow_right (by decide) (by omega)
  exact Nat.lt_of_lt_of_le (Nat.mul_lt_mul_of_pos_right h.1 (Nat.pow_pos (by decide))) h2
theorem inA_t (x : Int32) : inA x = inA x := rfl
theorem inR_r {n : Int32} (h : inR 0 n = true) : ∃ k, 2 ≤ k ∧ k ≤ 7 ∧ n = nI k := by
  unfold inR at h
  rw [if_pos rfl, Bool.and_eq_true, decide_eq_true_eq, decide_eq_true_eq] at h
  obtain ⟨j, h1, h2⟩ := nI_of2 (M := 7) (n := 7) (by decide) (by have := h.1; grind) h.2
  refine ⟨j, ?_, h1, h2⟩
  rw [h2] at h
  exact (nI_leI (a := 2) (by decide) (by omega)).mp h.1
theorem inR_c {n : Int32} (h : inR 1 n = true) : ∃ k, 1 ≤ k ∧ k ≤ 20 ∧ n = nI k := by
  unfold inR at h
  rw [if_neg (by decide), Bool.and_eq_true, Bool.and_eq_true, decide_eq_true_eq, decide_eq_true_eq, decide_eq_true_eq] at h
  obtain ⟨j, h1, h2⟩ := nI_of2 (M := 20) (n := 20) (by decide) (by have := h.2.1; grind) h.2.2
  refine ⟨j, ?_, h1, h2⟩
  rw [h2] at h
  exact (nI_leI (a := 1) (by decide) (by omega)).mp h.2.1
theorem inR_bad {k n : Int32} (h0 : k ≠ 0) (h1 : k ≠ 1) : inR k n = false := by
  unfold inR
  rw [if_neg h0]
  simp [h1]
/-- the found cell of a row put in front -/
theorem ws_fr {G : GG} {A : Nat → Prop} {H0 H : Heap} {locs : List Loc} {X0 L1 L2 : va_W} {c : Nat × va_E} (h : WS G A H0 H locs (X0 ++ (L1 ++ (c :: L2)))) : WS G A H0 H locs ((X0 ++ [c]) ++ (L2 ++ L1)) := by
  have h1 := ws_swap (a := X0) (b := L1) (c := c :: L2) (by rw [List.append_assoc]; exact h)
  simpa using h1
theorem ws_bk {G : GG} {A : Nat → Prop} {H0 H : Heap} {locs : List Loc} {X0 L1 L2 : va_W} {c : Nat × va_E} (h : WS G A H0 H locs ((X0 ++ [c]) ++ (L2 ++ L1))) : WS G A H0 H locs (X0 ++ (L1 ++ (c :: L2))) := by
  have h1 := ws_swap (a := X0) (b := c :: L2) (c := L1) (by simpa using h)
  rw [List.append_assoc] at h1
  exact h1
theorem mis_end {m a ny j : Nat} {i : Int32} (hij : i = nI j) (hj : j < 2 ^ 31) (c12 : i < nI (pcN 64 m)) (hR : miF m (min j 12 - a) ny = miF m (min j 12) m) (he : min j 12 ≤ a) : mmA m ny = misR m i := by
  rw [show min j 12 - a = 0 by omega] at hR
  unfold misR
  rw [if_pos ⟨by rw [hij]; exact nI_pos' hj, c12⟩, hij, nI_clamp hj, ← hR]
  rfl
def ansR (kd n : Nat) (v : Int32) : Int32 := fnd (nI (resT kd n).1) (nI (resT kd n).2.1) (nI (resT kd n).2.2.1) (resT kd n).2.2.2 v
/-! A callee whose world is the world's end. -/
theorem nd_of : ∀ l : List Nat, l.Nodup → va_nd l = true
  | [], _ => rfl
  | a :: l, h => by
    rw [List.nodup_cons] at h
    simp [va_nd, h.1, nd_of l h.2]
theorem ix_suf (X0 wc : va_W) : ((List.range wc.length).map (· + X0.length)).map (fun i => (X0 ++ wc)[i]?) = wc.map some := by
  rw [List.map_map]
  apply List.ext_getElem (by simp)
  intro i h1 h2
  simp only [List.getElem_map, List.getElem_range, Function.comp]
  rw [List.getElem?_append_right (by omega), Nat.add_sub_cancel]
  simp at h2
  simp [h2]
theorem ix_pre (X0 wc : va_W) : (List.range X0.length).map (fun i => (X0 ++ wc)[i]?) = X0.map some := by
  apply List.ext_getElem (by simp)
  intro i h1 h2
  simp only [List.getElem_map, List.getElem_range]
  simp at h2
  rw [List.getElem?_append_left h2]
  simp [h2]
theorem nd_suf (n k : Nat) : va_nd ((List.range n).map (· + k)) = true := by
  apply nd_of
  exact List.Pairwise.map (· + k) (fun a b (h : a ≠ b) => by show a + k ≠ b + k; omega) List.nodup_range
theorem dis_suf (n k : Nat) : ∀ i ∈ List.range k, i ∉ (List.range n).map (· + k) := by
  intro i h1 h2
  simp at h1 h2
  omega
theorem xcVS {p : Program} {l : Launch} {e : Env} {R : Room} {s : State} {m : MethodId} {args : Array Value} {below : List Frame} {meth : Method} {c : Code} {H : Heap} {locs : List Loc} {cells slots : Nat} {Q : State → Prop} {cc : ByteArray} {pc : Nat} {ls : Array Slot} {rest : List Value} {G : GG} {A : Nat → Prop} {Ts : List Cond} {own : String} {nL : Nat} {nm : String} {y : MethodName} {wsy wsy' : List Cond} {rm : Room} {As : List Value} {wc : va_W} {Post : Option Value → va_W → Prop} {mc ms maxL index n : Nat} {bytes : ByteArray} {ret : Option FieldType} {st : List Value}
    (X : CX p s m meth c args G Ts own cc nL nm A) {X0 : va_W} (hw : WS G A s.heap H locs (X0 ++ wc)) {b : Nat} (hC : CT l G y wsy rm (.ref b :: As) wc Post mc ms) {C : String} (hG : GoodIn Ts (wsV own index C y wsy)) {q0 ci N : Nat} {fs : List Value} {T0 : u_T} (he : (X0 ++ wc)[q0]? = some (b, .inr (ci, fs))) (hcl : vwCl[ci]? = some (C, T0, N)) (hcode : wsy = Cond.code y bytes maxL ret :: wsy') (hrm : rm.cells = mc ∧ rm.slots = ms) (hd : y.cls = C ∧ y.cls ≠ "java/lang/invoke/MethodHandle" ∧ y.cls ≠ "java/lang/invoke/VarHandle" ∧ (parseMethodDescriptor y.desc).map (fun d => d.parameters.length) = some n) (hR : rm.frames + 1 ≤ R.frames ∧ 8 + (maxL + 11) + rm.locals ≤ R.locals) (hn : As.length = n) (hl : ls.size = nL) (hst : st = As.reverse ++ .ref b :: rest) (hcat : (rest.map fun v => v.category).sum ≤ 8) (hdg : decode cc pc = .ok (.invokevirtual index, 3)) (hf : cells + mc ≤ R.cells ∧ slots + ms ≤ R.slots)
    (kk : ∀ (r : Option Value) (w1 : va_W) (H1 : Heap) (locs1 : List Loc), Post r w1 → WS G A s.heap H1 locs1 (X0 ++ w1) → W p l e R s m args below meth c H1 locs1 (cells + mc) (slots + ms) Q (F0 m (pc + 3) ls (r.toList ++ rest))) : W p l e R s m args below meth c H locs cells slots Q (F0 m pc ls st) := xcV X hw hC hG he hcl hcode hrm hd hR hn hl hst hcat hdg hf _ _ (ix_suf X0 wc) (ix_pre X0 wc) (nd_suf _ _) (nd_of _ List.nodup_range) (dis_suf _ _) kk
