/-! Worlds in another order; contracts over greater worlds. -/
theorem vaD_nd {A : Nat → Prop} {ws : va_W} (h : va_D A ws) : (ws.map Prod.fst).Nodup := by
  unfold List.Nodup
  rw [List.pairwise_iff_getElem]
  intro i j hi hj hij e
  simp at hi hj
  have := h.1 i j ws[i] ws[j] (by simp) (by simp) (by simpa using e)
  omega
theorem vaD_of {A : Nat → Prop} {ws : va_W} (h : (ws.map Prod.fst).Nodup) (hA : ∀ q ∈ ws, A q.1) : va_D A ws := by
  refine ⟨fun i j p q hp hq e => ?_, fun k q hk => hA q (List.mem_of_getElem? hk)⟩
  obtain ⟨hi, rfl⟩ := List.getElem?_eq_some_iff.mp hp
  obtain ⟨hj, rfl⟩ := List.getElem?_eq_some_iff.mp hq
  have hn : ∀ (a b : Nat) (ha : a < ws.length) (hb : b < ws.length), a < b → ws[a].1 ≠ ws[b].1 := by
    intro a b ha hb hab e2
    unfold List.Nodup at h
    rw [List.pairwise_iff_getElem] at h
    exact h a b (by simpa using ha) (by simpa using hb) hab (by simpa using e2)
  rcases Nat.lt_trichotomy i j with q | q | q
  · exact absurd e (hn i j hi hj q)
  · exact q
  · exact absurd e.symm (hn j i hj hi q)
theorem vaP_perm {D : va_G} {cl : List vw_C} {ws ws2 : va_W} {H : Heap} (hp : ws.Perm ws2) (h : va_P D cl ws H) : va_P D cl ws2 H := by
  intro k q hk
  obtain ⟨i, hi⟩ := List.getElem?_of_mem (hp.symm.subset (List.mem_of_getElem? hk))
  exact h i q hi
theorem vaD_perm {A : Nat → Prop} {ws ws2 : va_W} (hp : ws.Perm ws2) (h : va_D A ws) : va_D A ws2 := by
  refine vaD_of ((hp.map Prod.fst).nodup_iff.mp (vaD_nd h)) (fun q hq => ?_)
  obtain ⟨i, hi⟩ := List.getElem?_of_mem (hp.symm.subset hq)
  exact h.2 i q hi
theorem ws_perm {G : GG} {A : Nat → Prop} {H0 H : Heap} {locs : List Loc} {ws ws2 : va_W} (hp : ws.Perm ws2) (h : WS G A H0 H locs ws) : WS G A H0 H locs ws2 := ⟨vaP_perm hp h.1, vaD_perm hp h.2.1, h.2.2⟩
theorem vaA_perm {ws ws2 : va_W} {sz q : Nat} (hp : ws.Perm ws2) (h : va_A ws sz q) : va_A ws2 sz q := by
  rcases h with ⟨k, e, h⟩ | h
  · obtain ⟨i, hi⟩ := List.getElem?_of_mem (hp.subset (List.mem_of_getElem? h))
    exact Or.inl ⟨i, e, hi⟩
  · exact Or.inr h
theorem p_abcd {α : Type} (a b c d : List α) : ((a ++ b) ++ (c ++ d)).Perm ((a ++ c) ++ (b ++ d)) := by
  rw [List.append_assoc, List.append_assoc]
  refine List.Perm.append_left a ?_
  rw [← List.append_assoc, ← List.append_assoc]
  exact List.Perm.append_right d List.perm_append_comm
/-- a contract over a greater world in any order -/
theorem ct_fp {l : Launch} {G : GG} {y : MethodName} {ws : List Cond} {rm : Room} {av : List Value} {w0 : va_W} {Post : Option Value → va_W → Prop} {mc ms : Nat} (hC : CT l G y ws rm av w0 Post mc ms) (fr : va_W) {W0 : va_W} (hp : (w0 ++ fr).Perm W0) {Post2 : Option Value → va_W → Prop} (h2 : ∀ r w1, Post r w1 → ∃ W1, (w1 ++ fr).Perm W1 ∧ Post2 r W1) : CT l G y ws rm av W0 Post2 mc ms := by
  have h1 := ct_lift hC (X0 := w0) (pl := fr) (wr := []) (List.range w0.length) [] (by
    have := ix_pre w0 []
    simpa using this) rfl (nd_of _ List.nodup_range) rfl (fun i h => by cases h) (Post2 := fun r w => ∃ w1, w = w1 ++ fr ∧ Post r w1) (fun r w1 hw => ⟨w1, List.range w1.length, nd_of _ List.nodup_range, by
      have := ix_pre w1 []
      simpa using this, w1, rfl, hw⟩)
  intro sz
  refine MetFree.mono (h1 sz) ?_ (fun _ _ _ _ _ h => h) ?_
  · rintro a U ⟨g0, g1, hP, hK, hD⟩
    exact ⟨g0, g1, vaP_perm hp.symm hP, hK, vaD_perm hp.symm hD⟩
  · rintro a st o t - ⟨⟨⟨r, w, e1, ⟨w1, rfl, e2⟩, hP1, hD1⟩, hF⟩, L, hE, hL⟩
    obtain ⟨W1, p1, p2⟩ := h2 r w1 e2
    refine ⟨⟨⟨r, W1, e1, p2, vaP_perm p1 hP1, (vaD_perm p1 hD1).weaken (fun _ _ _ z => vaA_perm hp z)⟩, ⟨hF.1, fun q z1 z2 => hF.2 q z1 (fun z => z2 (vaA_perm hp z))⟩⟩, L, hE, fun q hq => vaA_perm hp (hL q hq)⟩
theorem p_idx {X X1 : va_W} (n : Nat) (is : List Nat) (hX : X.length = n) (hp : is.isPerm (List.range n) = true) (hs : is.map (fun i => X[i]?) = X1.map some) : X1.Perm X := by
  subst hX
  have e1 : X1 = is.filterMap (fun i => X[i]?) := by
    have h := congrArg (List.filterMap id) hs
    rw [List.filterMap_map, List.filterMap_map] at h
    simpa [Function.comp] using h.symm
  have e2 : X = (List.range X.length).filterMap (fun i => X[i]?) := by
    have hs2 := ix_pre X []
    simp only [List.append_nil] at hs2
    have h := congrArg (List.filterMap id) hs2
    rw [List.filterMap_map, List.filterMap_map] at h
    simpa [Function.comp] using h.symm
  rw [e1]
  conv => rhs; rw [e2]
  exact List.Perm.filterMap _ (List.isPerm_iff.mp hp)
/-! The rows of a searches' object, as they are filled. -/
def rfs (ad : Nat → Nat) (i : Nat) : Nat → Option Nat := fun j => if j < i then some (ad j) else none
def fz : Nat → Nat × Nat × Nat × Nat := fun _ => (0, 0, 0, 0)
theorem rfs_0 (ad : Nat → Nat) : rfs ad 0 = fun _ => none := by
  funext j
  simp [rfs]
theorem rfs_up (ad : Nat → Nat) (i q : Nat) : va_up (rfs ad i) i (some q) = rfs (va_up ad i q) (i + 1) := by
  funext j
  unfold va_up rfs
  by_cases h : j = i
  · simp [h]
  · rw [if_neg h]
    by_cases h2 : j < i
    · rw [if_pos h2, if_pos (by omega)]
      simp [h]
    · rw [if_neg h2, if_neg (by omega)]
theorem fsW_up (ad : Nat → Nat) (i q : Nat) : fsW (va_up ad i q) fz (i + 1) = fsW ad fz i ++ [(q, .inr (1, [.int (nI i), .int (nI 0), .int (nI 0), .int (nI 0), .long (lN 0)]))] := by
  show fsW (va_up ad i q) fz i ++ [fC (va_up ad i q) fz i] = _
  rw [fs_cong (ad2 := ad) (FS2 := fz) i (fun j hj => by unfold va_up; rw [if_neg (by omega)]) (fun _ _ => rfl)]
  unfold fC va_up fz
  simp
theorem cellq_cong {cA : ClassId} {n : Nat} {f g : Nat → Option Nat} (h : ∀ j, j < n → f j = g j) : vp_cell cA (n, .inr (.inr (.inr (.inr f)))) = vp_cell cA (n, .inr (.inr (.inr (.inr g)))) := by
  rw [vp_cell_q, vp_cell_q]
  unfold arrV
  congr 1
  apply Array.ext
  · simp
  · intro i h1 h2
    simp at h1
    simp [h i h1]
theorem sW_new {G : GG} {A : Nat → Prop} {H0 H : Heap} {locs : List Loc} {s0 r kd N : Nat} {ad : Nat → Nat} (hw : WS G A H0 H locs ((s0, .inr (3, [.int (nI kd), .ref r, .int (nI 0), .int (nI 0)])) :: (r, .inl (G.2.2.2, N, .inr (.inr (.inr (.inr (rfs ad N)))))) :: fsW ad fz N)) : WS G A H0 H locs (sW G s0 r ad kd N 0) := by
  have e0 : ∀ i, fsOf kd 0 i = (0, 0, 0, 0) := fun i => fsOf_un (Nat.zero_testBit i)
  have e1 : ttOf kd 0 N = 0 := by
    unfold ttOf
    rw [fb_sm_cong (g := fun _ => 0) (fun k _ => by rw [e0])]
    rw [fb_sm_const, Nat.mul_zero]
  unfold sW
  rw [e1, fs_cong (ad2 := ad) (FS2 := fz) N (fun _ _ => rfl) (fun i _ => e0 i)]
  have hcell : vp_cell G.2.2.2 (N, .inr (.inr (.inr (.inr (fun i => some (ad i)))))) = vp_cell G.2.2.2 (N, .inr (.inr (.inr (.inr (rfs ad N))))) := cellq_cong (fun j hj => by unfold rfs; rw [if_pos hj])
  refine ⟨?_, ?_, hw.2.2⟩
  · have := hw.1.set (p := 1) (e := .inl (G.2.2.2, N, .inr (.inr (.inr (.inr (fun i => some (ad i))))))) hw.2.1 rfl (by show H[r]? = some (vp_cell _ _); rw [hcell]; exact hw.1 1 _ rfl) (fun _ _ => rfl)
    exact this
  · exact hw.2.1.set (p := 1) (e := .inl (G.2.2.2, N, .inr (.inr (.inr (.inr (fun i => some (ad i))))))) rfl
