/-! Worlds with a tail that a callee doesn't see; contracts over more cells than they need. -/
theorem ws_swap {G : GG} {A : Nat → Prop} {H0 H : Heap} {locs : List Loc} {a b c : va_W} (h : WS G A H0 H locs ((a ++ b) ++ c)) : WS G A H0 H locs ((a ++ c) ++ b) := ⟨h.1.swap, h.2.1.swap, h.2.2⟩
theorem ws_subT {G : GG} {A : Nat → Prop} {H0 H : Heap} {locs : List Loc} {X cx pl : va_W} (h : WS G A H0 H locs (X ++ pl)) (is : List Nat) (hn : va_nd is = true) (hs : is.map (fun i => X[i]?) = cx.map some) : WS G A H0 H locs (cx ++ pl) := ⟨h.1.part is hs, h.2.1.part is hn hs, h.2.2⟩
section ROWS3
variable {p : Program} {l : Launch} {e : Env} {R : Room} {s : State} {m : MethodId} {args : Array Value} {below : List Frame} {meth : Method} {c : Code} {H : Heap} {locs : List Loc} {cells slots : Nat} {Q : State → Prop}
variable {cc : ByteArray} {pc : Nat} {ls : Array Slot} {rest : List Value} {G : GG} {A : Nat → Prop} {Ts : List Cond} {own : String} {nL : Nat} {nm : String}
theorem x_callT (X : CX p s m meth c args G Ts own cc nL nm A) {X0 pl : va_W} (hw : WS G A s.heap H locs (X0 ++ pl)) {mc ms : Nat} {st0 : List Value} {Post : Option Value → va_W → Prop} {a : Array Value} {wc wr : va_W} (hr : va_Run p l e R s m args below meth c H locs cells slots mc ms (F0 m pc ls st0) rest (cq_Q G Post (va_A wc H.size) a) (va_A wc H.size))
    (isC isR : List Nat) (hC : isC.map (fun i => X0[i]?) = wc.map some) (hR : isR.map (fun i => X0[i]?) = wr.map some) (hn : va_nd isR = true) (hdis : ∀ i ∈ isR, i ∉ isC)
    (kk : ∀ (r : Option Value) (w1 : va_W) (H1 : Heap) (locs1 : List Loc), Post r w1 → WS G A s.heap H1 locs1 ((wr ++ w1) ++ pl) → W p l e R s m args below meth c H1 locs1 (cells + mc) (slots + ms) Q (F0 m (pc + 3) ls (r.toList ++ rest))) : W p l e R s m args below meth c H locs cells slots Q (F0 m pc ls st0) := by
  have hF : ∀ q, va_A wc H.size q → A q := by
    intro q h
    rcases h with ⟨k, e2, h⟩ | h
    · obtain ⟨i, h1, h2⟩ := va_in_of isC hC h
      have h3 : (X0 ++ pl)[i]? = some (q, e2) := by rw [List.getElem?_append_left (List.getElem?_eq_some_iff.mp h2).1]; exact h2
      exact hw.2.1.2 i _ h3
    · exact X.2.2.2.2.2.2.1 q (Nat.le_trans hw.2.2.1 h)
  refine x_back hr hw.2.2 (fun q _ h => hF q h) hF (fun r w1 H1 locs1 hp hP1 hD1 hk hS => ?_)
  obtain ⟨hP, hD⟩ := va_joinQ hw.1 hw.2.1 isC isR hC hR hn hdis hk hF hP1 hD1
  exact kk r w1 H1 locs1 hp ⟨hP, hD, hS⟩
theorem ws_partT {H0 : Heap} {X0 pl wc : va_W} (hw : WS G A H0 H locs (X0 ++ pl)) (isC : List Nat) (hnC : va_nd isC = true) (hC : isC.map (fun i => X0[i]?) = wc.map some) : va_P G.1 vwCl wc H ∧ va_D A wc := by
  have h := ws_subT hw isC hnC hC
  refine ⟨fun k q hk => h.1 k q ?_, ?_⟩
  · rw [List.getElem?_append_left (List.getElem?_eq_some_iff.mp hk).1]; exact hk
  · refine h.2.1.by id (fun k q hq => ?_) (fun i j _ _ z => z)
    show (wc ++ pl)[k]? = some q
    rw [List.getElem?_append_left (List.getElem?_eq_some_iff.mp hq).1]
    exact hq
variable {y : MethodName} {wsy wsy' : List Cond} {rm : Room} {As : List Value} {wc : va_W} {Post : Option Value → va_W → Prop} {mc ms maxL index n : Nat} {bytes : ByteArray} {ret : Option FieldType} {st : List Value}
/-- invokestatic, the tail put aside -/
theorem xcST (X : CX p s m meth c args G Ts own cc nL nm A) {X0 pl : va_W} (hw : WS G A s.heap H locs (X0 ++ pl)) (hC : CT l G y wsy rm As wc Post mc ms) (hG : GoodIn Ts (va_wsS own index y wsy)) (hcode : wsy = Cond.code y bytes maxL ret :: wsy') (hrm : rm.cells = mc ∧ rm.slots = ms) (hd : y.cls ≠ "java/lang/invoke/MethodHandle" ∧ y.cls ≠ "java/lang/invoke/VarHandle" ∧ (parseMethodDescriptor y.desc).map (fun d => d.parameters.length) = some n) (hR : rm.frames + 1 ≤ R.frames ∧ 8 + (maxL + 11) + rm.locals ≤ R.locals) (hn : As.length = n) (hl : ls.size = nL) (hst : st = As.reverse ++ rest) (hcat : (rest.map fun v => v.category).sum ≤ 8) (hdg : decode cc pc = .ok (.invokestatic index, 3)) (hf : cells + mc ≤ R.cells ∧ slots + ms ≤ R.slots)
    {wr : va_W} (isC isR : List Nat) (hIC : isC.map (fun i => X0[i]?) = wc.map some) (hIR : isR.map (fun i => X0[i]?) = wr.map some) (hnC : va_nd isC = true) (hnR : va_nd isR = true) (hdis : ∀ i ∈ isR, i ∉ isC)
    (kk : ∀ (r : Option Value) (w1 : va_W) (H1 : Heap) (locs1 : List Loc), Post r w1 → WS G A s.heap H1 locs1 ((wr ++ w1) ++ pl) → W p l e R s m args below meth c H1 locs1 (cells + mc) (slots + ms) Q (F0 m (pc + 3) ls (r.toList ++ rest))) : W p l e R s m args below meth c H locs cells slots Q (F0 m pc ls st) := by
  obtain ⟨hx, hb, hml, hown, hts, hK, hA, hnn⟩ := id X
  have hpt := ws_partT hw isC hnC hIC
  exact x_callT X hw (va_runS ⟨hx, hb, hml, hown, hts⟩ (hC H.size) (va_cwS n hts hG hcode hrm.1 hrm.2 hd hR) ⟨ct_blind, ct_pre X hpt.1 hpt.2⟩ rfl hn hl hst (lv_room hcat) hdg hf) isC isR hIC hIR hnR hdis kk
/-- invokespecial of a constructor, the tail put aside -/
theorem xcIT (X : CX p s m meth c args G Ts own cc nL nm A) {X0 pl : va_W} (hw : WS G A s.heap H locs (X0 ++ pl)) {b : Nat} (hC : CT l G y wsy rm (.ref b :: As) wc Post mc ms) (hG : GoodIn Ts wsy) (hini : Cond.initialized y.cls ∈ Ts) (hlk : Cond.methodLink own index y ∈ Ts) (hins : Cond.instanceMethod y ∈ Ts) (hy1 : y.name = "<init>") (hcode : wsy = Cond.code y bytes maxL none :: wsy') (hrm : rm.cells = mc ∧ rm.slots = ms) (hd : y.cls ≠ "java/lang/invoke/MethodHandle" ∧ y.cls ≠ "java/lang/invoke/VarHandle" ∧ (parseMethodDescriptor y.desc).map (fun d => d.parameters.length) = some n) (hR : rm.frames + 1 ≤ R.frames ∧ 8 + (maxL + 11) + rm.locals ≤ R.locals) (hn : As.length = n) (hl : ls.size = nL) (hst : st = As.reverse ++ .ref b :: rest) (hcat : (rest.map fun v => v.category).sum ≤ 8) (hdg : decode cc pc = .ok (.invokespecial index, 3)) (hf : cells + mc ≤ R.cells ∧ slots + ms ≤ R.slots)
    {wr : va_W} (isC isR : List Nat) (hIC : isC.map (fun i => X0[i]?) = wc.map some) (hIR : isR.map (fun i => X0[i]?) = wr.map some) (hnC : va_nd isC = true) (hnR : va_nd isR = true) (hdis : ∀ i ∈ isR, i ∉ isC)
    (kk : ∀ (r : Option Value) (w1 : va_W) (H1 : Heap) (locs1 : List Loc), Post r w1 → WS G A s.heap H1 locs1 ((wr ++ w1) ++ pl) → W p l e R s m args below meth c H1 locs1 (cells + mc) (slots + ms) Q (F0 m (pc + 3) ls (r.toList ++ rest))) : W p l e R s m args below meth c H locs cells slots Q (F0 m pc ls st) := by
  obtain ⟨hx, hb, hml, hown, hts, hK, hA, hnn⟩ := id X
  have hpt := ws_partT hw isC hnC hIC
  exact x_callT X hw (va_runI ⟨hx, hb, hml, hown, hts⟩ (hC H.size) (cwI n hts hG hcode hrm.1 hrm.2 (hts _ hini) (hts _ hlk) (hts _ hins) hy1 hd hR) ⟨ct_blind, ct_pre X hpt.1 hpt.2⟩ rfl hn hl hst (lv_room hcat) hdg hf) isC isR hIC hIR hnR hdis kk
end ROWS3
/-- invokespecial of a nest mate's private constructor -/
theorem xcIN {p : Program} {l : Launch} {e : Env} {R : Room} {s : State} {m : MethodId} {args : Array Value} {below : List Frame} {meth : Method} {c : Code} {H : Heap} {locs : List Loc} {cells slots : Nat} {Q : State → Prop} {cc : ByteArray} {pc : Nat} {ls : Array Slot} {rest : List Value} {G : GG} {A : Nat → Prop} {Ts : List Cond} {own host : String} {nL : Nat} {nm : String} {ws : va_W} {y : MethodName} {wsy wsy' : List Cond} {rm : Room} {As : List Value} {wc : va_W} {Post : Option Value → va_W → Prop} {mc ms maxL index n : Nat} {bytes : ByteArray} {st : List Value}
    (X : CX p s m meth c args G Ts own cc nL nm A) (hw : WS G A s.heap H locs ws) {b : Nat} (hC : CT l G y wsy rm (.ref b :: As) wc Post mc ms) (hG : GoodIn Ts wsy) (hini : Cond.initialized y.cls ∈ Ts) (hlk : Cond.methodLinkNest own index y host ∈ nwW) (hins : Cond.instanceMethod y ∈ Ts) (hy1 : y.name = "<init>") (hcode : wsy = Cond.code y bytes maxL none :: wsy') (hrm : rm.cells = mc ∧ rm.slots = ms) (hd : y.cls ≠ "java/lang/invoke/MethodHandle" ∧ y.cls ≠ "java/lang/invoke/VarHandle" ∧ (parseMethodDescriptor y.desc).map (fun d => d.parameters.length) = some n) (hR : rm.frames + 1 ≤ R.frames ∧ 8 + (maxL + 11) + rm.locals ≤ R.locals) (hn : As.length = n) (hl : ls.size = nL) (hst : st = As.reverse ++ .ref b :: rest) (hcat : (rest.map fun v => v.category).sum ≤ 8) (hdg : decode cc pc = .ok (.invokespecial index, 3)) (hf : cells + mc ≤ R.cells ∧ slots + ms ≤ R.slots)
    {wr : va_W} (isC isR : List Nat) (hIC : isC.map (fun i => ws[i]?) = wc.map some) (hIR : isR.map (fun i => ws[i]?) = wr.map some) (hnC : va_nd isC = true) (hnR : va_nd isR = true) (hdis : ∀ i ∈ isR, i ∉ isC)
    (kk : ∀ (r : Option Value) (w1 : va_W) (H1 : Heap) (locs1 : List Loc), Post r w1 → WS G A s.heap H1 locs1 (wr ++ w1) → W p l e R s m args below meth c H1 locs1 (cells + mc) (slots + ms) Q (F0 m (pc + 3) ls (r.toList ++ rest))) : W p l e R s m args below meth c H locs cells slots Q (F0 m pc ls st) := by
  obtain ⟨hx, hb, hml, hown, hts, hK, hA, hnn⟩ := id X
  exact x_call X hw (va_runIN ⟨hx, hb, hml, hown, hts⟩ (hC H.size) ⟨va_cnB n hts hG hcode hrm.1 hrm.2 (hK.2.1 _ hlk) (hts _ hini) hd hR, hy1, hts _ hins⟩ ⟨ct_blind, ct_pre X (ws_part hw isC hIC) (hw.2.1.sub isC hnC hIC)⟩ rfl hn hl hst (lv_room hcat) hdg hf) isC isR hIC hIR hnR hdis kk
/-- a contract over a greater world: the cells that it doesn't know stay; the tail too -/
theorem ct_lift {l : Launch} {G : GG} {y : MethodName} {ws : List Cond} {rm : Room} {av : List Value} {w0 : va_W} {Post : Option Value → va_W → Prop} {mc ms : Nat} (hC : CT l G y ws rm av w0 Post mc ms) {X0 pl wr : va_W} (isC isR : List Nat) (hIC : isC.map (fun i => X0[i]?) = w0.map some) (hIR : isR.map (fun i => X0[i]?) = wr.map some) (hnC : va_nd isC = true) (hnR : va_nd isR = true) (hdis : ∀ i ∈ isR, i ∉ isC) {Post2 : Option Value → va_W → Prop}
    (h2 : ∀ r w1, Post r w1 → ∃ (X1 : va_W) (is : List Nat), va_nd is = true ∧ is.map (fun i => (wr ++ w1)[i]?) = X1.map some ∧ Post2 r (X1 ++ pl)) : CT l G y ws rm av (X0 ++ pl) Post2 mc ms := by
  intro sz
  refine MetFree.mono (hC sz) ?_ (fun _ _ _ _ _ h => h) ?_
  · rintro a U ⟨h0, h1, hP, hK, hD⟩
    have hpt := ws_partT (H0 := U.heap) (locs := []) (A := fun _ => True) ⟨hP, hD, ⟨Nat.le_refl _, fun _ _ _ => rfl, fun _ h => by cases h⟩⟩ isC hnC hIC
    exact ⟨h0, h1, hpt.1, hK, hpt.2⟩
  · rintro a st o t ⟨h0, h1, hP, hK, hD⟩ ⟨⟨⟨r, w1, e1, e2, hP1, hD1⟩, hF⟩, L, hE, hL⟩
    have hsub : ∀ q, va_A w0 sz q → va_A (X0 ++ pl) sz q := by
      intro q h
      rcases h with ⟨k, e3, h⟩ | h
      · obtain ⟨i, i1, i2⟩ := va_in_of isC hIC h
        exact Or.inl ⟨i, e3, by rw [List.getElem?_append_left (List.getElem?_eq_some_iff.mp i2).1]; exact i2⟩
      · exact Or.inr h
    subst h1
    obtain ⟨hP2, hD2⟩ := va_joinQ (A0 := va_A (X0 ++ pl) st.heap.size) hP hD.self isC isR hIC hIR hnR hdis (fun q z1 z2 => hF.2 q z1 z2) hsub hP1 hD1
    obtain ⟨X1, is, n1, n2, n3⟩ := h2 r w1 e2
    exact ⟨⟨⟨r, X1 ++ pl, e1, n3, hP2.part is n2, hD2.part is n1 n2⟩, ⟨hF.1, fun q z1 z2 => hF.2 q z1 (fun z => z2 (hsub q z))⟩⟩, L, hE, fun q hq => hsub _ (hL q hq)⟩
/-- invokevirtual, the tail put aside -/
theorem xcVT {p : Program} {l : Launch} {e : Env} {R : Room} {s : State} {m : MethodId} {args : Array Value} {below : List Frame} {meth : Method} {c : Code} {H : Heap} {locs : List Loc} {cells slots : Nat} {Q : State → Prop} {cc : ByteArray} {pc : Nat} {ls : Array Slot} {rest : List Value} {G : GG} {A : Nat → Prop} {Ts : List Cond} {own : String} {nL : Nat} {nm : String} {y : MethodName} {wsy wsy' : List Cond} {rm : Room} {As : List Value} {wc : va_W} {Post : Option Value → va_W → Prop} {mc ms maxL index n : Nat} {bytes : ByteArray} {ret : Option FieldType} {st : List Value}
    (X : CX p s m meth c args G Ts own cc nL nm A) {X0 pl : va_W} (hw : WS G A s.heap H locs (X0 ++ pl)) {b : Nat} (hC : CT l G y wsy rm (.ref b :: As) wc Post mc ms) {C : String} (hG : GoodIn Ts (wsV own index C y wsy)) {q0 ci N : Nat} {fs : List Value} {T0 : u_T} (he : (X0 ++ pl)[q0]? = some (b, .inr (ci, fs))) (hcl : vwCl[ci]? = some (C, T0, N)) (hcode : wsy = Cond.code y bytes maxL ret :: wsy') (hrm : rm.cells = mc ∧ rm.slots = ms) (hd : y.cls = C ∧ y.cls ≠ "java/lang/invoke/MethodHandle" ∧ y.cls ≠ "java/lang/invoke/VarHandle" ∧ (parseMethodDescriptor y.desc).map (fun d => d.parameters.length) = some n) (hR : rm.frames + 1 ≤ R.frames ∧ 8 + (maxL + 11) + rm.locals ≤ R.locals) (hn : As.length = n) (hl : ls.size = nL) (hst : st = As.reverse ++ .ref b :: rest) (hcat : (rest.map fun v => v.category).sum ≤ 8) (hdg : decode cc pc = .ok (.invokevirtual index, 3)) (hf : cells + mc ≤ R.cells ∧ slots + ms ≤ R.slots)
    {wr : va_W} (isC isR : List Nat) (hIC : isC.map (fun i => X0[i]?) = wc.map some) (hIR : isR.map (fun i => X0[i]?) = wr.map some) (hnC : va_nd isC = true) (hnR : va_nd isR = true) (hdis : ∀ i ∈ isR, i ∉ isC)
    (kk : ∀ (r : Option Value) (w1 : va_W) (H1 : Heap) (locs1 : List Loc), Post r w1 → WS G A s.heap H1 locs1 ((wr ++ w1) ++ pl) → W p l e R s m args below meth c H1 locs1 (cells + mc) (slots + ms) Q (F0 m (pc + 3) ls (r.toList ++ rest))) : W p l e R s m args below meth c H locs cells slots Q (F0 m pc ls st) := by
  obtain ⟨hx, hb, hml, hown, hts, hK, hA, hnn⟩ := id X
  have hpt := ws_partT hw isC hnC hIC
  exact x_callT X hw (va_runV ⟨hx, hb, hml, hown, hts⟩ (hC H.size) (cwV n hts hG hcode hrm.1 hrm.2 hd hR) ⟨ct_blind, va_recv hK.1 hw.1 hcl he, ct_pre X hpt.1 hpt.2⟩ rfl hn hl hst (lv_room hcat) hdg hf) isC isR hIC hIR hnR hdis kk
