/-! What the law draws from its ints. -/
def cX (L : Nat) (xs : Nat → Int32) (k : Nat) : Int32 := if L = 0 then nI (k * 37 + 5) else (xs (k % L) >>> (nI (k % 7) &&& 31)) &&& 4194303
def cN (L : Nat) (xs : Nat → Int32) (k n : Nat) : Nat := (cX L xs k).toNatClampNeg % n
theorem cN_lt {L : Nat} {xs : Nat → Int32} {k n : Nat} (h : 0 < n) : cN L xs k n < n := Nat.mod_lt _ h
theorem cX_nn {L : Nat} {xs : Nat → Int32} {k : Nat} (hk : k < 1000) : ∃ j : Nat, j < 2 ^ 22 ∧ cX L xs k = nI j := by
  unfold cX
  split
  · exact ⟨k * 37 + 5, by omega, rfl⟩
  · obtain ⟨j, h1, h2⟩ := pk_andE (xs (k % L) >>> (nI (k % 7) &&& 31)) (m := 4194303) 22 (by decide)
    exact ⟨j, h1, h2⟩
theorem cN_rem {L : Nat} {xs : Nat → Int32} {k n : Nat} (hk : k < 1000) (h0 : 0 < n) (hn : n < 2 ^ 31) : cX L xs k - cX L xs k / nI n * nI n = nI (cN L xs k n) := by
  obtain ⟨j, h1, h2⟩ := cX_nn (L := L) (xs := xs) hk
  unfold cN
  rw [h2, nI_clamp (by omega), pk_rem (by omega) h0 hn]
set_option maxHeartbeats 4000000 in
set_option maxRecDepth 100000 in
theorem c_cell (l : Launch) (G : GG) (z L : Nat) (xs : Nat → Int32) (k n : Nat) (hk : k < 1000) (h0 : 0 < n) (hn : n < 2 ^ 31) (hL : L ≤ 260) : ∀ sz : Nat, Met l yL_cell wsL_cell ({ frames := 0, cells := 0, slots := 0, locals := 0 } : Room) (va_Pc [.ref z, .int (nI k), .int (nI n)] (fun U => U.heap.size = sz ∧ va_X z L xs U U.heap ∧ z < U.heap.size)) (cq_Q G (fun r w => r = some (.int (nI (cN L xs k n))) ∧ w = []) (va_A [] sz)) 0 0 (va_A [] sz) := by
  intro sz
  refine Met.ofW (cc := cL_cell) (maxL := 3) (ret := some .int) (by decide +kernel) rfl ?_
  intro p e s m args below meth c s₁ B hml hv
  obtain ⟨rfl, hsz, hX, hbl⟩ := hv
  subst hsz
  have hts := atoms_spec (ws := wsL_cell) B.pre
  have hown : s.vm.findClass yL_cell.cls = some m.cls := findClass_of_methodNamed B.named
  have hx := B.exec
  have hb := B.bytes
  have hbA : ¬ va_A [] s.heap.size z := by
    rintro (⟨q, e, h⟩ | h)
    · simp at h
    · exact absurd hbl (Nat.not_lt.mpr h)
  rw [lg_entry_eq]
  have hl := lv_entry ([.ref z, .int (nI k), .int (nI n)]) (n := 3) (Nat.le_of_ble_eq_true rfl)
  generalize (lg_sl ([.ref z, .int (nI k), .int (nI n)]) ++ List.replicate (3 - (lg_sl ([.ref z, .int (nI k), .int (nI n)])).length) Slot.unset).toArray = ls at hl ⊢
  have hl : lv_has ls 3 [(0, .ref z), (1, .int (nI k)), (2, .int (nI n))] := hl
  have hend : W p l e ({ frames := 0, cells := 0, slots := 0, locals := 0 } : Room) s m ([.ref z, .int (nI k), .int (nI n)] : List Value).toArray below meth c s.heap [] 0 0 (MQ below (cq_Q G (fun r w => r = some (.int (nI (cN L xs k n))) ∧ w = []) (va_A [] s.heap.size)) #[Value.ref z, Value.int (nI k), Value.int (nI n)] s 0 0 (va_A [] s.heap.size)) (F0 m 28 ls [.int (cX L xs k)]) := by
    refine lv_iload_n hx hb dL_cell_28 rfl (lv_at hl 2 rfl) ?_
    refine lv_irem hx hb dL_cell_29 (nI_ne0 h0 hn) ?_
    refine x_cvi (y := nI (cN L xs k n)) (cN_rem hk h0 hn) ?_
    exact W.iret B.exec B.bytes B.returns (fun t ht _ => ⟨⟨_, [], rfl, ⟨rfl, rfl⟩, fun k q h => by simp at h, ⟨fun i j p q h => by simp at h, fun k q h => by simp at h⟩⟩, va_S.rf.F ht⟩) (fun q hq => absurd hq List.not_mem_nil) dL_cell_30
  refine lv_aload_n hx hb dL_cell_0 rfl (lv_at hl 0 rfl) ?_
  refine va_slen hx hb hX hbl hbA va_S.rf dL_cell_1 ?_
  refine lv_if_ne (tgt := 14) hx hb dL_cell_2 (by decide) (fun c2 => ?_) (fun c2 => ?_)
  · have hL0 : L ≠ 0 := fun q => c2 (by rw [q]; rfl)
    refine lv_aload_n hx hb dL_cell_14 rfl (lv_at hl 0 rfl) ?_
    refine lv_iload_n hx hb dL_cell_15 rfl (lv_at hl 1 rfl) ?_
    refine lv_aload_n hx hb dL_cell_16 rfl (lv_at hl 0 rfl) ?_
    refine va_slen hx hb hX hbl hbA va_S.rf dL_cell_17 ?_
    refine lv_irem hx hb dL_cell_18 c2 ?_
    refine x_cvi (y := nI (k % L)) (pk_rem (by omega) (by omega) (by omega)) ?_
    refine va_sld hx hb hX hbl hbA va_S.rf (vp_in_nI (Nat.mod_lt _ (by omega)) (by omega)) dL_cell_19 ?_
    refine x_cvi (y := xs (k % L)) (by rw [nI_clamp (by have := Nat.mod_lt k (show L > 0 by omega); omega)]) ?_
    refine lv_iload_n hx hb dL_cell_20 rfl (lv_at hl 1 rfl) ?_
    refine lv_bipush (v := 7) hx hb dL_cell_21 (by decide) ?_
    refine lv_irem hx hb dL_cell_23 (by decide) ?_
    refine x_cvi (y := nI (k % 7)) (pk_rem (d := 7) (by omega) (by omega) (by omega)) ?_
    refine lv_ishr hx hb dL_cell_24 ?_
    refine lv_ldc (v := 4194303) hx hb hown (hts _ (by decide +kernel)) dL_cell_25 ?_
    refine lv_iand hx hb dL_cell_27 ?_
    refine x_cvi (y := cX L xs k) (by unfold cX; rw [if_neg hL0]) ?_
    exact hend
  · have hL0 : L = 0 := by
      rcases Nat.eq_zero_or_pos L with q | q
      · exact q
      · exact absurd c2 (nI_ne0 q (by omega))
    refine lv_iload_n hx hb dL_cell_5 rfl (lv_at hl 1 rfl) ?_
    refine lv_bipush (v := 37) hx hb dL_cell_6 (by decide) ?_
    refine lv_imul hx hb dL_cell_8 ?_
    refine lv_iconst (v := 5) hx hb dL_cell_9 (by decide) ?_
    refine lv_iadd hx hb dL_cell_10 ?_
    refine lv_goto (tgt := 28) hx hb dL_cell_11 (by decide) ?_
    refine x_cvi (y := cX L xs k) (by unfold cX; rw [if_pos hL0]; show nI k * nI 37 + nI 5 = _; rw [pk_mul, nI_add]) ?_
    exact hend
