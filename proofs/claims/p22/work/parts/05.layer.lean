/-! My own layer over the kit: one form of contract, one row a call. -/
/-- the classes' numbers; the array classes of int, boolean, Found -/
abbrev GG : Type := va_G × ClassId × ClassId × ClassId
abbrev gT (G : GG) : List (ClassId × FieldType) := [(G.2.1, .int), (G.2.1, .int), (G.2.2.2, .object RX2)]
def nwOk : Cond → Bool
  | .fieldLinkNest .. => true
  | .methodLinkNest .. => true
  | _ => false
/-- what the tables say of private members of nest mates -/
def nwW : List Cond := [.methodLinkNest RX3 9 yX7_isStation RX7, .methodLinkNest RX3 33 yX7_isLength RX7, .methodLinkNest RX1 38 yX7_isStation RX7, .methodLinkNest RX1 42 yX7_isLength RX7, .methodLinkNest RX7 24 yX4_init RX7, .fieldLinkNest RX0 15 RX2 "number" "I" RX7, .fieldLinkNest RX0 18 RX2 "size" "I" RX7, .fieldLinkNest RX0 41 RX2 "tries" "I" RX7, .fieldLinkNest RX0 9 RX2 "asked" "I" RX7, .fieldLinkNest RX5 15 RX2 "number" "I" RX7, .fieldLinkNest RX5 18 RX2 "size" "I" RX7, .fieldLinkNest RX5 33 RX2 "tries" "I" RX7, .fieldLinkNest RX5 9 RX2 "asked" "I" RX7, .fieldLinkNest RX6 48 RX2 "tries" "I" RX7]
theorem nwW_ok : ∀ w ∈ nwW, nwOk w = true := List.all_eq_true.mp (by decide +kernel)
theorem nw_move {w : Cond} (hw : nwOk w = true) {s U : State} (hW : s.WarmedH U.vm) (h : va_Nw w s) : va_Nw w U := by
  unfold nwOk at hw
  split at hw
  · exact va_Nw.warmF hW h
  · exact va_Nw.warmM hW h
  · cases hw
theorem nw_same {w : Cond} (hw : nwOk w = true) {s U : State} (hv : s.vm = U.vm) (h : va_Nw w s) : va_Nw w U := by
  unfold nwOk at hw
  split at hw
  · exact va_Nw.same rfl hv h
  · exact va_Nw.same rfl hv h
  · cases hw
/-- what stays: the classes, the array classes, the nest mates' words -/
def KU (G : GG) (U : State) : Prop := va_K G.1 vwCl (gT G) U ∧ (∀ w ∈ nwW, va_Nw w U) ∧ va_AO RX2 U
theorem ku_move {G : GG} {s U : State} (hW : s.WarmedH U.vm) (h : KU G s) : KU G U := ⟨va_K.moved hW.alike h.1, fun w hw => nw_move (nwW_ok w hw) hW (h.2.1 w hw), va_AO.moved hW.alike h.2.2⟩
theorem ku_call {G : GG} {U : State} {g : JFrame} {mk : MethodId} {a : Array Value} (h : KU G U) : KU G (U.calling g mk a) := ⟨va_K.moved (u := U) (U := U.calling g mk a) (Vm.Alike.refl U.vm) h.1, fun w hw => nw_same (s := U) (U := U.calling g mk a) (nwW_ok w hw) rfl (h.2.1 w hw), va_AO.moved (u := U) (U := U.calling g mk a) (Vm.Alike.refl U.vm) h.2.2⟩
/-- the heap holds the world -/
def WS (G : GG) (A : Nat → Prop) (H0 H : Heap) (locs : List Loc) (ws : va_W) : Prop := va_P G.1 vwCl ws H ∧ va_D A ws ∧ va_S A H0 H locs
theorem WS.sub {G : GG} {A : Nat → Prop} {H0 H : Heap} {locs : List Loc} {ws ws' : va_W} (h : WS G A H0 H locs ws) (is : List Nat) (hn : va_nd is = true) (hs : is.map (fun i => ws[i]?) = ws'.map some) : WS G A H0 H locs ws' := by
  refine ⟨fun k q hk => ?_, h.2.1.sub is hn hs, h.2.2⟩
  have h1 : (is.map (fun i => ws[i]?))[k]? = some (some q) := by rw [hs, List.getElem?_map, hk]; rfl
  rw [List.getElem?_map] at h1
  cases hi : is[k]? with
  | none => rw [hi] at h1; cases h1
  | some i => rw [hi] at h1; exact h.1 i q (Option.some.inj h1)
/-- where a method's body stands -/
def CX (p : Program) (s : State) (m : MethodId) (meth : Method) (c : Code) (args : Array Value) (G : GG) (Ts : List Cond) (own : String) (cc : ByteArray) (nL : Nat) (nm : String) (A : Nat → Prop) : Prop :=
  p.tables.exec = Jvm.exec ∧ c.code = cc ∧ c.maxLocals = nL ∧ s.vm.findClass own = some m.cls ∧ (∀ w ∈ Ts, w.before args s = true) ∧ KU G s ∧ (∀ q : Nat, s.heap.size ≤ q → A q) ∧ meth.name = nm
def cq_Q (G : GG) (Post : Option Value → va_W → Prop) (A : Nat → Prop) : Array Value → State → Outcome → State → Prop := fun _ st oc t => (∃ (r : Option Value) (w1 : va_W), oc = .returned r ∧ Post r w1 ∧ va_P G.1 vwCl w1 t.heap ∧ va_D A w1) ∧ va_F A st t
/-- THE CONTRACT: at the world w0, with these arguments, it returns, and Post holds of its answer and of the world behind it -/
def CT (l : Launch) (G : GG) (y : MethodName) (ws : List Cond) (rm : Room) (av : List Value) (w0 : va_W) (Post : Option Value → va_W → Prop) (mc ms : Nat) : Prop :=
  ∀ sz : Nat, Met l y ws rm (va_Pc av (fun U => U.heap.size = sz ∧ va_P G.1 vwCl w0 U.heap ∧ KU G U ∧ va_D (fun _ => True) w0)) (cq_Q G Post (va_A w0 sz)) mc ms (va_A w0 sz)
theorem ct_post {l : Launch} {G : GG} {y : MethodName} {ws : List Cond} {rm : Room} {av : List Value} {w0 : va_W} {Post Post2 : Option Value → va_W → Prop} {mc ms : Nat} (h : ∀ r w, Post r w → Post2 r w) (hC : CT l G y ws rm av w0 Post mc ms) : CT l G y ws rm av w0 Post2 mc ms := by
  exact fun sz => MetFree.mono (hC sz) (fun _ _ h => h) (fun _ _ _ _ _ h => h) (fun a st o t _ ⟨⟨⟨r, w1, e1, e2, e3⟩, e4⟩, e5⟩ => ⟨⟨⟨r, w1, e1, h r w1 e2, e3⟩, e4⟩, e5⟩)
section OPEN
variable {l : Launch} {G : GG} {y : MethodName} {ws ws' : List Cond} {rm : Room} {av : List Value} {w0 : va_W} {Post : Option Value → va_W → Prop} {mc ms : Nat} {cc : ByteArray} {maxL : Nat}
theorem ct_i (hy : plainName y.cls = true) (hw : ws = .code y cc maxL (some .int) :: ws') (hsl : (lg_sl av).length ≤ maxL)
    (body : ∀ (p : Program) (e : Env) (s : State) (m : MethodId) (below : List Frame) (meth : Method) (c : Code) (A : Nat → Prop) (Q : State → Prop), CX p s m meth c av.toArray G ws y.cls cc maxL y.name A → WS G A s.heap s.heap [] w0 → (∀ (pc : Nat) (H : Heap) (locs : List Loc) (ls : Array Slot) (v : Int32) (w1 : va_W), decode cc pc = .ok (.ireturn, 1) → WS G A s.heap H locs w1 → Post (some (.int v)) w1 → W p l e rm s m av.toArray below meth c H locs mc ms Q (F0 m pc ls [.int v])) → ∀ ls : Array Slot, lv_has ls maxL (lv_args 0 av) → W p l e rm s m av.toArray below meth c s.heap [] 0 0 Q (F0 m 0 ls [])) : CT l G y ws rm av w0 Post mc ms := by
  intro sz
  refine Met.ofW (cc := cc) (maxL := maxL) (ret := some .int) hy hw ?_
  intro p e s m args below meth c s₁ B hml hv
  obtain ⟨rfl, hsz, hP, hK, hD0⟩ := hv
  subst hsz
  have hts := atoms_spec (ws := ws) B.pre
  have hown : s.vm.findClass y.cls = some m.cls := findClass_of_methodNamed B.named
  have hlocks := B.notSynchronized
  rw [lg_entry_eq]
  exact body p e s m below meth c (va_A w0 s.heap.size) _ ⟨B.exec, B.bytes, hml, hown, hts, hK, fun q h => Or.inr h, (name_of_methodNamed B.named B.method).1⟩ ⟨hP, hD0.self, va_S.rf⟩ (fun pc H locs ls v w1 hd hw1 hp => W.iret B.exec B.bytes B.returns (fun t ht _ => ⟨⟨_, w1, rfl, hp, by rw [ht]; exact hw1.1, hw1.2.1⟩, hw1.2.2.F ht⟩) hw1.2.2.2.2 hd) _ (lv_entry av hsl)
theorem ct_z (hy : plainName y.cls = true) (hw : ws = .code y cc maxL (some .boolean) :: ws') (hsl : (lg_sl av).length ≤ maxL)
    (body : ∀ (p : Program) (e : Env) (s : State) (m : MethodId) (below : List Frame) (meth : Method) (c : Code) (A : Nat → Prop) (Q : State → Prop), CX p s m meth c av.toArray G ws y.cls cc maxL y.name A → WS G A s.heap s.heap [] w0 → (∀ (pc : Nat) (H : Heap) (locs : List Loc) (ls : Array Slot) (v : Int32) (w1 : va_W), decode cc pc = .ok (.ireturn, 1) → WS G A s.heap H locs w1 → narrow .boolean (.int v) = .int v → Post (some (.int v)) w1 → W p l e rm s m av.toArray below meth c H locs mc ms Q (F0 m pc ls [.int v])) → ∀ ls : Array Slot, lv_has ls maxL (lv_args 0 av) → W p l e rm s m av.toArray below meth c s.heap [] 0 0 Q (F0 m 0 ls [])) : CT l G y ws rm av w0 Post mc ms := by
  intro sz
  refine Met.ofW (cc := cc) (maxL := maxL) (ret := some .boolean) hy hw ?_
  intro p e s m args below meth c s₁ B hml hv
  obtain ⟨rfl, hsz, hP, hK, hD0⟩ := hv
  subst hsz
  have hts := atoms_spec (ws := ws) B.pre
  have hown : s.vm.findClass y.cls = some m.cls := findClass_of_methodNamed B.named
  have hlocks := B.notSynchronized
  rw [lg_entry_eq]
  exact body p e s m below meth c (va_A w0 s.heap.size) _ ⟨B.exec, B.bytes, hml, hown, hts, hK, fun q h => Or.inr h, (name_of_methodNamed B.named B.method).1⟩ ⟨hP, hD0.self, va_S.rf⟩ (fun pc H locs ls v w1 hd hw1 hn hp => W.zret B.exec B.bytes B.returns hn (fun t ht _ => ⟨⟨_, w1, rfl, hp, by rw [ht]; exact hw1.1, hw1.2.1⟩, hw1.2.2.F ht⟩) hw1.2.2.2.2 hd) _ (lv_entry av hsl)
theorem ct_l (hy : plainName y.cls = true) (hw : ws = .code y cc maxL (some .long) :: ws') (hsl : (lg_sl av).length ≤ maxL)
    (body : ∀ (p : Program) (e : Env) (s : State) (m : MethodId) (below : List Frame) (meth : Method) (c : Code) (A : Nat → Prop) (Q : State → Prop), CX p s m meth c av.toArray G ws y.cls cc maxL y.name A → WS G A s.heap s.heap [] w0 → (∀ (pc : Nat) (H : Heap) (locs : List Loc) (ls : Array Slot) (v : Int64) (w1 : va_W), decode cc pc = .ok (.lreturn, 1) → WS G A s.heap H locs w1 → Post (some (.long v)) w1 → W p l e rm s m av.toArray below meth c H locs mc ms Q (F0 m pc ls [.long v])) → ∀ ls : Array Slot, lv_has ls maxL (lv_args 0 av) → W p l e rm s m av.toArray below meth c s.heap [] 0 0 Q (F0 m 0 ls [])) : CT l G y ws rm av w0 Post mc ms := by
  intro sz
  refine Met.ofW (cc := cc) (maxL := maxL) (ret := some .long) hy hw ?_
  intro p e s m args below meth c s₁ B hml hv
  obtain ⟨rfl, hsz, hP, hK, hD0⟩ := hv
  subst hsz
  have hts := atoms_spec (ws := ws) B.pre
  have hown : s.vm.findClass y.cls = some m.cls := findClass_of_methodNamed B.named
  have hlocks := B.notSynchronized
  rw [lg_entry_eq]
  exact body p e s m below meth c (va_A w0 s.heap.size) _ ⟨B.exec, B.bytes, hml, hown, hts, hK, fun q h => Or.inr h, (name_of_methodNamed B.named B.method).1⟩ ⟨hP, hD0.self, va_S.rf⟩ (fun pc H locs ls v w1 hd hw1 hp => W.lret B.exec B.bytes B.returns (fun t ht _ => ⟨⟨_, w1, rfl, hp, by rw [ht]; exact hw1.1, hw1.2.1⟩, hw1.2.2.F ht⟩) hw1.2.2.2.2 hd) _ (lv_entry av hsl)
theorem ct_v (hy : plainName y.cls = true) (hw : ws = .code y cc maxL none :: ws') (hsl : (lg_sl av).length ≤ maxL)
    (body : ∀ (p : Program) (e : Env) (s : State) (m : MethodId) (below : List Frame) (meth : Method) (c : Code) (A : Nat → Prop) (Q : State → Prop), CX p s m meth c av.toArray G ws y.cls cc maxL y.name A → WS G A s.heap s.heap [] w0 → (∀ (pc : Nat) (H : Heap) (locs : List Loc) (ls : Array Slot) (w1 : va_W), decode cc pc = .ok (.return_, 1) → WS G A s.heap H locs w1 → Post none w1 → W p l e rm s m av.toArray below meth c H locs mc ms Q (F0 m pc ls [])) → ∀ ls : Array Slot, lv_has ls maxL (lv_args 0 av) → W p l e rm s m av.toArray below meth c s.heap [] 0 0 Q (F0 m 0 ls [])) : CT l G y ws rm av w0 Post mc ms := by
  intro sz
  refine Met.ofW (cc := cc) (maxL := maxL) (ret := none) hy hw ?_
  intro p e s m args below meth c s₁ B hml hv
  obtain ⟨rfl, hsz, hP, hK, hD0⟩ := hv
  subst hsz
  have hts := atoms_spec (ws := ws) B.pre
  have hown : s.vm.findClass y.cls = some m.cls := findClass_of_methodNamed B.named
  have hlocks := B.notSynchronized
  rw [lg_entry_eq]
  exact body p e s m below meth c (va_A w0 s.heap.size) _ ⟨B.exec, B.bytes, hml, hown, hts, hK, fun q h => Or.inr h, (name_of_methodNamed B.named B.method).1⟩ ⟨hP, hD0.self, va_S.rf⟩ (fun pc H locs ls w1 hd hw1 hp => W.vret B.exec B.bytes B.returns (fun t ht _ => ⟨⟨_, w1, rfl, hp, by rw [ht]; exact hw1.1, hw1.2.1⟩, hw1.2.2.F ht⟩) hw1.2.2.2.2 hd) _ (lv_entry av hsl)
theorem ct_a {cn : String} (hy : plainName y.cls = true) (hw : ws = .code y cc maxL (some (.object cn)) :: ws') (hsl : (lg_sl av).length ≤ maxL)
    (body : ∀ (p : Program) (e : Env) (s : State) (m : MethodId) (below : List Frame) (meth : Method) (c : Code) (A : Nat → Prop) (Q : State → Prop), CX p s m meth c av.toArray G ws y.cls cc maxL y.name A → WS G A s.heap s.heap [] w0 → (∀ (pc : Nat) (H : Heap) (locs : List Loc) (ls : Array Slot) (v : Nat) (w1 : va_W), decode cc pc = .ok (.areturn, 1) → WS G A s.heap H locs w1 → Post (some (.ref v)) w1 → W p l e rm s m av.toArray below meth c H locs mc ms Q (F0 m pc ls [.ref v])) → ∀ ls : Array Slot, lv_has ls maxL (lv_args 0 av) → W p l e rm s m av.toArray below meth c s.heap [] 0 0 Q (F0 m 0 ls [])) : CT l G y ws rm av w0 Post mc ms := by
  intro sz
  refine Met.ofW (cc := cc) (maxL := maxL) (ret := some (.object cn)) hy hw ?_
  intro p e s m args below meth c s₁ B hml hv
  obtain ⟨rfl, hsz, hP, hK, hD0⟩ := hv
  subst hsz
  have hts := atoms_spec (ws := ws) B.pre
  have hown : s.vm.findClass y.cls = some m.cls := findClass_of_methodNamed B.named
  have hlocks := B.notSynchronized
  rw [lg_entry_eq]
  exact body p e s m below meth c (va_A w0 s.heap.size) _ ⟨B.exec, B.bytes, hml, hown, hts, hK, fun q h => Or.inr h, (name_of_methodNamed B.named B.method).1⟩ ⟨hP, hD0.self, va_S.rf⟩ (fun pc H locs ls v w1 hd hw1 hp => W.aret (rt := .object cn) B.exec B.bytes B.returns (Or.inl ⟨cn, rfl⟩) (Or.inr ⟨v, rfl⟩) (fun t ht _ => ⟨⟨_, w1, rfl, hp, by rw [ht]; exact hw1.1, hw1.2.1⟩, hw1.2.2.F ht⟩) hw1.2.2.2.2 hd) _ (lv_entry av hsl)
end OPEN
section ROWS
variable {p : Program} {l : Launch} {e : Env} {R : Room} {s : State} {m : MethodId} {args : Array Value} {below : List Frame} {meth : Method} {c : Code} {H : Heap} {locs : List Loc} {cells slots : Nat} {Q : State → Prop}
variable {cc : ByteArray} {pc : Nat} {ls : Array Slot} {rest : List Value} {G : GG} {A : Nat → Prop} {Ts : List Cond} {own : String} {nL : Nat} {nm : String} {ws : va_W}
theorem xg (X : CX p s m meth c args G Ts own cc nL nm A) (hw : WS G A s.heap H locs ws) {C : String} {T : u_T} {N ci index a : Nat} (hin : ∀ w ∈ u_ws C T N, w ∈ Ts) (q0 : Nat) {fs : List Value} (he : ws[q0]? = some (a, .inr (ci, fs))) (hc : vwCl[ci]? = some (C, T, N)) (k : Nat) (hk : k < N) (hr : (T k).1 = C) (hlink : Cond.fieldLink own index C (T k).2.1 (T k).2.2.1 ∈ Ts) {v : Value} (hv : fs[k]? = some v) (hdg : decode cc pc = .ok (.getfield index, 3))
    (kk : W p l e R s m args below meth c H locs cells slots Q (F0 m (pc + 3) ls (v :: rest))) : W p l e R s m args below meth c H locs cells slots Q (F0 m pc ls (.ref a :: rest)) := by
  obtain ⟨hx, hb, hml, hown, hts, hK, hA, hn⟩ := X
  exact va_get hx hb hts hin hown hK.1 hw.1 q0 he hc k hk (hts _ hlink) (by rw [hr]; exact fun _ h => h) hv hdg kk
theorem xgN (X : CX p s m meth c args G Ts own cc nL nm A) (hw : WS G A s.heap H locs ws) {C host : String} {T : u_T} {N ci index a : Nat} (hin : ∀ w ∈ u_ws C T N, w ∈ Ts) (q0 : Nat) {fs : List Value} (he : ws[q0]? = some (a, .inr (ci, fs))) (hc : vwCl[ci]? = some (C, T, N)) (k : Nat) (hk : k < N) (hr : (T k).1 = C) (hlink : Cond.fieldLinkNest own index C (T k).2.1 (T k).2.2.1 host ∈ nwW) {v : Value} (hv : fs[k]? = some v) (hdg : decode cc pc = .ok (.getfield index, 3))
    (kk : W p l e R s m args below meth c H locs cells slots Q (F0 m (pc + 3) ls (v :: rest))) : W p l e R s m args below meth c H locs cells slots Q (F0 m pc ls (.ref a :: rest)) := by
  obtain ⟨hx, hb, hml, hown, hts, hK, hA, hn⟩ := X
  exact va_getN hx hb hts hin hown hK.1 hw.1 q0 he hc k hk (va_Nw.use rfl (hK.2.1 _ hlink)) (by rw [hr]; exact fun _ h => h) hv hdg kk
theorem xp (X : CX p s m meth c args G Ts own cc nL nm A) (hw : WS G A s.heap H locs ws) {C : String} {T : u_T} {N ci index a : Nat} (hin : ∀ w ∈ u_ws C T N, w ∈ Ts) (ty0 : Nat → FieldType) (hty : ∀ k, k < N → parseFieldDescriptor (T k).2.2.1 = some (ty0 k)) (hnm : ∀ a, a < N → ∀ b, b < N → a ≠ b → (T a).2.1 ≠ (T b).2.1) (q0 : Nat) {fs : List Value} (he : ws[q0]? = some (a, .inr (ci, fs))) (hc : vwCl[ci]? = some (C, T, N)) (k : Nat) (hk : k < N) (hr : (T k).1 = C) (hlink : Cond.fieldLink own index C (T k).2.1 (T k).2.2.1 ∈ Ts) (hfin : (T k).2.2.2 = false) {ty : FieldType} {v : Value} (hd : parseFieldDescriptor (T k).2.2.1 = some ty) (hn : narrow ty v = v) (hfit : fits ty v = true) (hl : k < fs.length) (hdg : decode cc pc = .ok (.putfield index, 3)) {ws' : va_W} (hs : ws.set q0 (a, .inr (ci, fs.set k v)) = ws')
    (kk : ∀ (H : Heap) (locs : List Loc), WS G A s.heap H locs ws' → W p l e R s m args below meth c H locs cells slots Q (F0 m (pc + 3) ls rest)) : W p l e R s m args below meth c H locs cells slots Q (F0 m pc ls (v :: .ref a :: rest)) := by
  obtain ⟨hx, hb, hml, hown, hts, hK, hA, hnn⟩ := X
  subst hs
  exact va_put hx hb hts hin ty0 hty hnm hown hK.1 hw.1 hw.2.1 hw.2.2 q0 he hc k hk (hts _ hlink) (by rw [hr]; exact fun _ h => h) hfin hd hn hfit hl hdg (fun H1 locs1 h1 h2 h3 => kk H1 locs1 ⟨h1, h2, h3⟩)
theorem xpN (X : CX p s m meth c args G Ts own cc nL nm A) (hw : WS G A s.heap H locs ws) {C host : String} {T : u_T} {N ci index a : Nat} (hin : ∀ w ∈ u_ws C T N, w ∈ Ts) (ty0 : Nat → FieldType) (hty : ∀ k, k < N → parseFieldDescriptor (T k).2.2.1 = some (ty0 k)) (hnm : ∀ a, a < N → ∀ b, b < N → a ≠ b → (T a).2.1 ≠ (T b).2.1) (q0 : Nat) {fs : List Value} (he : ws[q0]? = some (a, .inr (ci, fs))) (hc : vwCl[ci]? = some (C, T, N)) (k : Nat) (hk : k < N) (hr : (T k).1 = C) (hlink : Cond.fieldLinkNest own index C (T k).2.1 (T k).2.2.1 host ∈ nwW) (hfin : (T k).2.2.2 = false) {ty : FieldType} {v : Value} (hd : parseFieldDescriptor (T k).2.2.1 = some ty) (hn : narrow ty v = v) (hfit : fits ty v = true) (hl : k < fs.length) (hdg : decode cc pc = .ok (.putfield index, 3)) {ws' : va_W} (hs : ws.set q0 (a, .inr (ci, fs.set k v)) = ws')
    (kk : ∀ (H : Heap) (locs : List Loc), WS G A s.heap H locs ws' → W p l e R s m args below meth c H locs cells slots Q (F0 m (pc + 3) ls rest)) : W p l e R s m args below meth c H locs cells slots Q (F0 m pc ls (v :: .ref a :: rest)) := by
  obtain ⟨hx, hb, hml, hown, hts, hK, hA, hnn⟩ := X
  subst hs
  exact va_putN hx hb hts hin ty0 hty hnm hown hK.1 hw.1 hw.2.1 hw.2.2 q0 he hc k hk (va_Nw.use rfl (hK.2.1 _ hlink)) (by rw [hr]; exact fun _ h => h) hfin hd hn hfit hl hdg (fun H1 locs1 h1 h2 h3 => kk H1 locs1 ⟨h1, h2, h3⟩)
/-- a final field, in a constructor -/
theorem xpF (X : CX p s m meth c args G Ts own cc nL "<init>" A) (hw : WS G A s.heap H locs ws) {T : u_T} {N ci index a : Nat} (hin : ∀ w ∈ u_ws own T N, w ∈ Ts) (ty0 : Nat → FieldType) (hty : ∀ k, k < N → parseFieldDescriptor (T k).2.2.1 = some (ty0 k)) (hnm : ∀ a, a < N → ∀ b, b < N → a ≠ b → (T a).2.1 ≠ (T b).2.1) (q0 : Nat) {fs : List Value} (he : ws[q0]? = some (a, .inr (ci, fs))) (hc : vwCl[ci]? = some (own, T, N)) (k : Nat) (hk : k < N) (hr : (T k).1 = own) (hlink : Cond.fieldLink own index own (T k).2.1 (T k).2.2.1 ∈ Ts) (hfin : (T k).2.2.2 = true) {ty : FieldType} {v : Value} (hd : parseFieldDescriptor (T k).2.2.1 = some ty) (hn : narrow ty v = v) (hfit : fits ty v = true) (hl : k < fs.length) (hdg : decode cc pc = .ok (.putfield index, 3)) {ws' : va_W} (hs : ws.set q0 (a, .inr (ci, fs.set k v)) = ws')
    (kk : ∀ (H : Heap) (locs : List Loc), WS G A s.heap H locs ws' → W p l e R s m args below meth c H locs cells slots Q (F0 m (pc + 3) ls rest)) : W p l e R s m args below meth c H locs cells slots Q (F0 m pc ls (v :: .ref a :: rest)) := by
  obtain ⟨hx, hb, hml, hown, hts, hK, hA, hnn⟩ := X
  subst hs
  exact va_putF hx hb hts hin ty0 hty hnm hown hK.1 hw.1 hw.2.1 hw.2.2 q0 he hc k hk (hts _ hlink) (by rw [hr]; exact fun _ h => h) hfin hnn hr hd hn hfit hl hdg (fun H1 locs1 h1 h2 h3 => kk H1 locs1 ⟨h1, h2, h3⟩)
theorem xia (X : CX p s m meth c args G Ts own cc nL nm A) (hw : WS G A s.heap H locs ws) (q0 : Nat) {n a : Nat} {f : Nat → Int32} (ha : ws[q0]? = some (a, .inl (G.2.1, n, .inl f))) {i : Int32} {j : Nat} (hi : i = nI j) (hj : j < n) (hn : n < 2 ^ 31) (hdg : decode cc pc = .ok (.iaload, 1))
    (kk : W p l e R s m args below meth c H locs cells slots Q (F0 m (pc + 1) ls (.int (f j) :: rest))) : W p l e R s m args below meth c H locs cells slots Q (F0 m pc ls (.int i :: .ref a :: rest)) := by
  obtain ⟨hx, hb, hml, hown, hts, hK, hA, hnn⟩ := X
  subst hi
  refine va_iald hx hb hK.1 hw.1 q0 0 ha rfl (vp_in_nI hj hn) hdg ?_
  rw [nI_clamp (by omega)]
  exact kk
theorem xis (X : CX p s m meth c args G Ts own cc nL nm A) (hw : WS G A s.heap H locs ws) (q0 : Nat) {n a : Nat} {f : Nat → Int32} (ha : ws[q0]? = some (a, .inl (G.2.1, n, .inl f))) {i x : Int32} {j : Nat} (hi : i = nI j) (hj : j < n) (hn : n < 2 ^ 31) (hdg : decode cc pc = .ok (.iastore, 1)) {ws' : va_W} (hs : ws.set q0 (a, .inl (G.2.1, n, .inl (upd f j x))) = ws')
    (kk : ∀ (H : Heap) (locs : List Loc), WS G A s.heap H locs ws' → W p l e R s m args below meth c H locs cells slots Q (F0 m (pc + 1) ls rest)) : W p l e R s m args below meth c H locs cells slots Q (F0 m pc ls (.int x :: .int i :: .ref a :: rest)) := by
  obtain ⟨hx, hb, hml, hown, hts, hK, hA, hnn⟩ := X
  subst hi
  subst hs
  refine va_iast hx hb hK.1 hw.1 hw.2.1 hw.2.2 q0 0 ha rfl (vp_in_nI hj hn) hdg (fun H1 locs1 h1 h2 h3 => ?_)
  rw [nI_clamp (by omega)] at h1 h2
  exact kk H1 locs1 ⟨h1, h2, h3⟩
theorem xqa (X : CX p s m meth c args G Ts own cc nL nm A) (hw : WS G A s.heap H locs ws) (q0 : Nat) {n a : Nat} {f : Nat → Option Nat} (ha : ws[q0]? = some (a, .inl (G.2.2.2, n, .inr (.inr (.inr (.inr f)))))) {i : Int32} {j : Nat} (hi : i = nI j) (hj : j < n) (hn : n < 2 ^ 31) {r : Nat} (hr : f j = some r) (hdg : decode cc pc = .ok (.aaload, 1))
    (kk : W p l e R s m args below meth c H locs cells slots Q (F0 m (pc + 1) ls (.ref r :: rest))) : W p l e R s m args below meth c H locs cells slots Q (F0 m pc ls (.int i :: .ref a :: rest)) := by
  obtain ⟨hx, hb, hml, hown, hts, hK, hA, hnn⟩ := X
  subst hi
  refine va_aldq (C := RX2) hx hb hK.1 hw.1 q0 2 ha rfl (vp_in_nI hj hn) hdg ?_
  rw [nI_clamp (by omega), hr]
  exact kk
theorem xqs (X : CX p s m meth c args G Ts own cc nL nm A) (hw : WS G A s.heap H locs ws) (q0 qk : Nat) {n a v : Nat} {vs : List Value} {f : Nat → Option Nat} (ha : ws[q0]? = some (a, .inl (G.2.2.2, n, .inr (.inr (.inr (.inr f)))))) (hv : ws[qk]? = some (v, .inr (1, vs))) {i : Int32} {j : Nat} (hi : i = nI j) (hj : j < n) (hn : n < 2 ^ 31) (hdg : decode cc pc = .ok (.aastore, 1)) {ws' : va_W} (hs : ws.set q0 (a, .inl (G.2.2.2, n, .inr (.inr (.inr (.inr (va_up f j (some v))))))) = ws')
    (kk : ∀ (H : Heap) (locs : List Loc), WS G A s.heap H locs ws' → W p l e R s m args below meth c H locs cells slots Q (F0 m (pc + 1) ls rest)) : W p l e R s m args below meth c H locs cells slots Q (F0 m pc ls (.ref v :: .int i :: .ref a :: rest)) := by
  obtain ⟨hx, hb, hml, hown, hts, hK, hA, hnn⟩ := X
  subst hi
  subst hs
  refine va_astq (r := (RX2, TX2, 5)) hx hb hK.1 hw.1 hw.2.1 hw.2.2 q0 2 qk 1 ha rfl hv rfl (vp_in_nI hj hn) hdg (fun H1 locs1 h1 h2 h3 => ?_)
  rw [nI_clamp (by omega)] at h1 h2
  exact kk H1 locs1 ⟨h1, h2, h3⟩
theorem xlen (X : CX p s m meth c args G Ts own cc nL nm A) (hw : WS G A s.heap H locs ws) (q0 t0 : Nat) {a : Nat} {cA : ClassId} {x : vp_A} (ha : ws[q0]? = some (a, .inl (cA, x))) {ty : FieldType} (ht : (gT G)[t0]? = some (cA, ty)) {v : Int32} (hv : Int32.ofNat x.1 = v) (hdg : decode cc pc = .ok (.arraylength, 1))
    (kk : W p l e R s m args below meth c H locs cells slots Q (F0 m (pc + 1) ls (.int v :: rest))) : W p l e R s m args below meth c H locs cells slots Q (F0 m pc ls (.ref a :: rest)) := by
  obtain ⟨hx, hb, hml, hown, hts, hK, hA, hnn⟩ := X
  exact va_alen hx hb hK.1 hw.1 q0 t0 ha ht hv hdg kk
theorem xc2 (X : CX p s m meth c args G Ts own cc nL nm A) {index : Nat} {v : Int64} (hconst : Cond.constantLong own index v ∈ Ts) (hdg : decode cc pc = .ok (.ldc2_w index, 3)) (kk : W p l e R s m args below meth c H locs cells slots Q (F0 m (pc + 3) ls (.long v :: rest))) : W p l e R s m args below meth c H locs cells slots Q (F0 m pc ls rest) := by
  obtain ⟨hx, hb, hml, hown, hts, hK, hA, hnn⟩ := X
  exact lv_ldc2 hx hb hown (hts _ hconst) hdg kk
theorem xcw (X : CX p s m meth c args G Ts own cc nL nm A) {index : Nat} {v : Int32} (hconst : Cond.constant own index v ∈ Ts) (hdg : decode cc pc = .ok (.ldc_w index, 3)) (kk : W p l e R s m args below meth c H locs cells slots Q (F0 m (pc + 3) ls (.int v :: rest))) : W p l e R s m args below meth c H locs cells slots Q (F0 m pc ls rest) := by
  obtain ⟨hx, hb, hml, hown, hts, hK, hA, hnn⟩ := X
  exact lv_ldcw hx hb hown (hts _ hconst) hdg kk
/-- behind a call -/
theorem x_back {mc ms : Nat} {st0 : List Value} {Post : Option Value → va_W → Prop} {A1 : Nat → Prop} {a : Array Value} {free : Addr → Prop} {H0 : Heap} {A0 : Nat → Prop} (hr : va_Run p l e R s m args below meth c H locs cells slots mc ms (F0 m pc ls st0) rest (cq_Q G Post A1 a) free) (hS : va_S A0 H0 H locs) (hA : ∀ q, q < H.size → A1 q → A0 q) (hf : ∀ q, free q → A0 q)
    (kk : ∀ (r : Option Value) (w1 : va_W) (H1 : Heap) (locs1 : List Loc), Post r w1 → va_P G.1 vwCl w1 H1 → va_D A1 w1 → (∀ q : Nat, q < H.size → ¬ A1 q → H1[q]? = H[q]?) → va_S A0 H0 H1 locs1 → W p l e R s m args below meth c H1 locs1 (cells + mc) (slots + ms) Q (F0 m (pc + 3) ls (r.toList ++ rest))) : W p l e R s m args below meth c H locs cells slots Q (F0 m pc ls st0) := by
  intro T hT X
  obtain ⟨v, st₀, t, T', L, h0, X', hL, e1, e2, ⟨⟨r, w1, hv, hp, hb, hd⟩, hz, hk⟩, st⟩ := hr T hT X
  cases hv
  rw [h0] at hz hk
  obtain ⟨t2, a1, b1⟩ := kk v w1 T'.heap (locs ++ L) hp (by rw [e1]; exact hb) hd (fun q h1 h2 => by rw [e1]; exact hk q h1 h2)
    ⟨Nat.le_trans hS.1 (by rw [e1]; exact hz), fun q h1 h2 => by rw [e1, hk q (Nat.lt_of_lt_of_le h1 hS.1) (fun z => h2 (hA q (Nat.lt_of_lt_of_le h1 hS.1) z))]; exact hS.2.1 q h1 h2, fun q hq => by
      rcases List.mem_append.mp hq with h | h
      · exact hS.2.2 q h
      · exact hf _ (hL q h)⟩ T' rfl X'
  exact ⟨t2, st t2 a1, b1⟩
/-- a call: the callee's cells cut out of the world, and what came back put behind the rest -/
theorem x_call (X : CX p s m meth c args G Ts own cc nL nm A) (hw : WS G A s.heap H locs ws) {mc ms : Nat} {st0 : List Value} {Post : Option Value → va_W → Prop} {a : Array Value} {wc wr : va_W} (hr : va_Run p l e R s m args below meth c H locs cells slots mc ms (F0 m pc ls st0) rest (cq_Q G Post (va_A wc H.size) a) (va_A wc H.size))
    (isC isR : List Nat) (hC : isC.map (fun i => ws[i]?) = wc.map some) (hR : isR.map (fun i => ws[i]?) = wr.map some) (hn : va_nd isR = true) (hdis : ∀ i ∈ isR, i ∉ isC)
    (kk : ∀ (r : Option Value) (w1 : va_W) (H1 : Heap) (locs1 : List Loc), Post r w1 → WS G A s.heap H1 locs1 (wr ++ w1) → W p l e R s m args below meth c H1 locs1 (cells + mc) (slots + ms) Q (F0 m (pc + 3) ls (r.toList ++ rest))) : W p l e R s m args below meth c H locs cells slots Q (F0 m pc ls st0) := by
  have hF := va_free hw.2.1 hw.2.2 X.2.2.2.2.2.2.1 isC hC
  refine x_back hr hw.2.2 (fun q _ h => hF q h) hF (fun r w1 H1 locs1 hp hP1 hD1 hk hS => ?_)
  obtain ⟨hP, hD⟩ := va_join hw.1 hw.2.1 isC isR hC hR hn hdis hk hF hP1 hD1
  exact kk r w1 H1 locs1 hp ⟨hP, hD, hS⟩
/-- a call of a method without a world -/
theorem x_callP (X : CX p s m meth c args G Ts own cc nL nm A) (hw : WS G A s.heap H locs ws) {st0 : List Value} {Post : Option Value → va_W → Prop} {a : Array Value} (hr : va_Run p l e R s m args below meth c H locs cells slots 0 0 (F0 m pc ls st0) rest (cq_Q G Post (va_A [] H.size) a) (va_A [] H.size))
    (kk : ∀ (r : Option Value) (w1 : va_W) (H1 : Heap) (locs1 : List Loc), Post r w1 → WS G A s.heap H1 locs1 ws → W p l e R s m args below meth c H1 locs1 cells slots Q (F0 m (pc + 3) ls (r.toList ++ rest))) : W p l e R s m args below meth c H locs cells slots Q (F0 m pc ls st0) := by
  have hF := va_free (wc := []) hw.2.1 hw.2.2 X.2.2.2.2.2.2.1 [] rfl
  refine x_back hr hw.2.2 (fun q _ h => hF q h) hF (fun r w1 H1 locs1 hp hP1 hD1 hk hS => ?_)
  refine kk r w1 H1 locs1 hp ⟨hw.1.kept (fun k q hq => hk q.1 ((hw.1 k q hq).lt) (fun h => ?_)), hw.2.1, hS⟩
  rcases h with ⟨k2, e2, h2⟩ | h2
  · simp at h2
  · exact absurd ((hw.1 k q hq).lt) (Nat.not_lt.mpr h2)
variable {y : MethodName} {wsy wsy' : List Cond} {rm : Room} {As : List Value} {wc : va_W} {Post : Option Value → va_W → Prop} {mc ms maxL index n : Nat} {bytes : ByteArray} {ret : Option FieldType} {st : List Value}
theorem ct_blind {sz : Nat} {av : List Value} {w0 : va_W} : FrameBlind (va_Pc av (fun U => U.heap.size = sz ∧ va_P G.1 vwCl w0 U.heap ∧ KU G U ∧ va_D (fun _ => True) w0)) := fun a U g mk q => ⟨q.1, q.2.1, q.2.2.1, ku_call q.2.2.2.1, q.2.2.2.2⟩
theorem ct_pre {ws0 : va_W} {A0 : Nat → Prop} (X : CX p s m meth c args G Ts own cc nL nm A) (hP : va_P G.1 vwCl ws0 H) (hD : va_D A0 ws0) : ∀ U : State, U.heap = H → s.WarmedH U.vm → va_Pc As (fun U => U.heap.size = H.size ∧ va_P G.1 vwCl ws0 U.heap ∧ KU G U ∧ va_D (fun _ => True) ws0) As.toArray U := fun U hU hW => ⟨rfl, by rw [hU], by rw [hU]; exact hP, ku_move hW X.2.2.2.2.2.1, hD.weaken (fun _ _ _ _ => trivial)⟩
theorem ws_part {H0 : Heap} (hw : WS G A H0 H locs ws) (isC : List Nat) (hC : isC.map (fun i => ws[i]?) = wc.map some) : va_P G.1 vwCl wc H := by
  intro k q hk
  have h1 : (isC.map (fun i => ws[i]?))[k]? = some (some q) := by rw [hC, List.getElem?_map, hk]; rfl
  rw [List.getElem?_map] at h1
  cases hi : isC[k]? with
  | none => rw [hi] at h1; cases h1
  | some i => rw [hi] at h1; exact hw.1 i q (Option.some.inj h1)
/-- invokestatic -/
theorem xcS (X : CX p s m meth c args G Ts own cc nL nm A) (hw : WS G A s.heap H locs ws) (hC : CT l G y wsy rm As wc Post mc ms) (hG : GoodIn Ts (va_wsS own index y wsy)) (hcode : wsy = Cond.code y bytes maxL ret :: wsy') (hrm : rm.cells = mc ∧ rm.slots = ms) (hd : y.cls ≠ "java/lang/invoke/MethodHandle" ∧ y.cls ≠ "java/lang/invoke/VarHandle" ∧ (parseMethodDescriptor y.desc).map (fun d => d.parameters.length) = some n) (hR : rm.frames + 1 ≤ R.frames ∧ 8 + (maxL + 11) + rm.locals ≤ R.locals) (hn : As.length = n) (hl : ls.size = nL) (hst : st = As.reverse ++ rest) (hcat : (rest.map fun v => v.category).sum ≤ 8) (hdg : decode cc pc = .ok (.invokestatic index, 3)) (hf : cells + mc ≤ R.cells ∧ slots + ms ≤ R.slots)
    {wr : va_W} (isC isR : List Nat) (hIC : isC.map (fun i => ws[i]?) = wc.map some) (hIR : isR.map (fun i => ws[i]?) = wr.map some) (hnC : va_nd isC = true) (hnR : va_nd isR = true) (hdis : ∀ i ∈ isR, i ∉ isC)
    (kk : ∀ (r : Option Value) (w1 : va_W) (H1 : Heap) (locs1 : List Loc), Post r w1 → WS G A s.heap H1 locs1 (wr ++ w1) → W p l e R s m args below meth c H1 locs1 (cells + mc) (slots + ms) Q (F0 m (pc + 3) ls (r.toList ++ rest))) : W p l e R s m args below meth c H locs cells slots Q (F0 m pc ls st) := by
  obtain ⟨hx, hb, hml, hown, hts, hK, hA, hnn⟩ := id X
  exact x_call X hw (va_runS ⟨hx, hb, hml, hown, hts⟩ (hC H.size) (va_cwS n hts hG hcode hrm.1 hrm.2 hd hR) ⟨ct_blind, ct_pre X (ws_part hw isC hIC) (hw.2.1.sub isC hnC hIC)⟩ rfl hn hl hst (lv_room hcat) hdg hf) isC isR hIC hIR hnR hdis kk
/-- invokestatic of a method without a world -/
theorem xcP (X : CX p s m meth c args G Ts own cc nL nm A) (hw : WS G A s.heap H locs ws) (hC : CT l G y wsy rm As [] Post 0 0) (hG : GoodIn Ts (va_wsS own index y wsy)) (hcode : wsy = Cond.code y bytes maxL ret :: wsy') (hrm : rm.cells = 0 ∧ rm.slots = 0) (hd : y.cls ≠ "java/lang/invoke/MethodHandle" ∧ y.cls ≠ "java/lang/invoke/VarHandle" ∧ (parseMethodDescriptor y.desc).map (fun d => d.parameters.length) = some n) (hR : rm.frames + 1 ≤ R.frames ∧ 8 + (maxL + 11) + rm.locals ≤ R.locals) (hn : As.length = n) (hl : ls.size = nL) (hst : st = As.reverse ++ rest) (hcat : (rest.map fun v => v.category).sum ≤ 8) (hdg : decode cc pc = .ok (.invokestatic index, 3)) (hf : cells ≤ R.cells ∧ slots ≤ R.slots)
    (kk : ∀ (r : Option Value) (w1 : va_W) (H1 : Heap) (locs1 : List Loc), Post r w1 → WS G A s.heap H1 locs1 ws → W p l e R s m args below meth c H1 locs1 cells slots Q (F0 m (pc + 3) ls (r.toList ++ rest))) : W p l e R s m args below meth c H locs cells slots Q (F0 m pc ls st) := by
  obtain ⟨hx, hb, hml, hown, hts, hK, hA, hnn⟩ := id X
  exact x_callP X hw (va_runS ⟨hx, hb, hml, hown, hts⟩ (hC H.size) (va_cwS n hts hG hcode hrm.1 hrm.2 hd hR) ⟨ct_blind, ct_pre X (ws_part hw [] rfl) (hw.2.1.sub (ws' := []) [] rfl rfl)⟩ rfl hn hl hst (lv_room hcat) hdg hf) kk
/-- invokestatic of a nest mate's private method without a world -/
theorem xcPN (X : CX p s m meth c args G Ts own cc nL nm A) (hw : WS G A s.heap H locs ws) (hC : CT l G y wsy rm As [] Post 0 0) (hG : GoodIn Ts wsy) {host : String} (hnest : Cond.methodLinkNest own index y host ∈ nwW) (hsta : Cond.static y ∈ Ts) (hini : Cond.initialized y.cls ∈ Ts) (hcode : wsy = Cond.code y bytes maxL ret :: wsy') (hrm : rm.cells = 0 ∧ rm.slots = 0) (hd : y.cls ≠ "java/lang/invoke/MethodHandle" ∧ y.cls ≠ "java/lang/invoke/VarHandle" ∧ (parseMethodDescriptor y.desc).map (fun d => d.parameters.length) = some n) (hR : rm.frames + 1 ≤ R.frames ∧ 8 + (maxL + 11) + rm.locals ≤ R.locals) (hn : As.length = n) (hl : ls.size = nL) (hst : st = As.reverse ++ rest) (hcat : (rest.map fun v => v.category).sum ≤ 8) (hdg : decode cc pc = .ok (.invokestatic index, 3)) (hf : cells ≤ R.cells ∧ slots ≤ R.slots)
    (kk : ∀ (r : Option Value) (w1 : va_W) (H1 : Heap) (locs1 : List Loc), Post r w1 → WS G A s.heap H1 locs1 ws → W p l e R s m args below meth c H1 locs1 cells slots Q (F0 m (pc + 3) ls (r.toList ++ rest))) : W p l e R s m args below meth c H locs cells slots Q (F0 m pc ls st) := by
  obtain ⟨hx, hb, hml, hown, hts, hK, hA, hnn⟩ := id X
  exact x_callP X hw (va_runSN ⟨hx, hb, hml, hown, hts⟩ (hC H.size) ⟨va_cnB n hts hG hcode hrm.1 hrm.2 (hK.2.1 _ hnest) (hts _ hini) hd hR, hts _ hsta, trivial⟩ ⟨ct_blind, ct_pre X (ws_part hw [] rfl) (hw.2.1.sub (ws' := []) [] rfl rfl)⟩ rfl hn hl hst (lv_room hcat) hdg hf) kk
/-- invokevirtual -/
theorem xcV (X : CX p s m meth c args G Ts own cc nL nm A) (hw : WS G A s.heap H locs ws) {b : Nat} (hC : CT l G y wsy rm (.ref b :: As) wc Post mc ms) {C : String} (hG : GoodIn Ts (wsV own index C y wsy)) {q0 ci N : Nat} {fs : List Value} {T0 : u_T} (he : ws[q0]? = some (b, .inr (ci, fs))) (hcl : vwCl[ci]? = some (C, T0, N)) (hcode : wsy = Cond.code y bytes maxL ret :: wsy') (hrm : rm.cells = mc ∧ rm.slots = ms) (hd : y.cls = C ∧ y.cls ≠ "java/lang/invoke/MethodHandle" ∧ y.cls ≠ "java/lang/invoke/VarHandle" ∧ (parseMethodDescriptor y.desc).map (fun d => d.parameters.length) = some n) (hR : rm.frames + 1 ≤ R.frames ∧ 8 + (maxL + 11) + rm.locals ≤ R.locals) (hn : As.length = n) (hl : ls.size = nL) (hst : st = As.reverse ++ .ref b :: rest) (hcat : (rest.map fun v => v.category).sum ≤ 8) (hdg : decode cc pc = .ok (.invokevirtual index, 3)) (hf : cells + mc ≤ R.cells ∧ slots + ms ≤ R.slots)
    {wr : va_W} (isC isR : List Nat) (hIC : isC.map (fun i => ws[i]?) = wc.map some) (hIR : isR.map (fun i => ws[i]?) = wr.map some) (hnC : va_nd isC = true) (hnR : va_nd isR = true) (hdis : ∀ i ∈ isR, i ∉ isC)
    (kk : ∀ (r : Option Value) (w1 : va_W) (H1 : Heap) (locs1 : List Loc), Post r w1 → WS G A s.heap H1 locs1 (wr ++ w1) → W p l e R s m args below meth c H1 locs1 (cells + mc) (slots + ms) Q (F0 m (pc + 3) ls (r.toList ++ rest))) : W p l e R s m args below meth c H locs cells slots Q (F0 m pc ls st) := by
  obtain ⟨hx, hb, hml, hown, hts, hK, hA, hnn⟩ := id X
  exact x_call X hw (va_runV ⟨hx, hb, hml, hown, hts⟩ (hC H.size) (cwV n hts hG hcode hrm.1 hrm.2 hd hR) ⟨ct_blind, va_recv hK.1 hw.1 hcl he, ct_pre X (ws_part hw isC hIC) (hw.2.1.sub isC hnC hIC)⟩ rfl hn hl hst (lv_room hcat) hdg hf) isC isR hIC hIR hnR hdis kk
/-- invokespecial of a constructor -/
theorem xcI (X : CX p s m meth c args G Ts own cc nL nm A) (hw : WS G A s.heap H locs ws) {b : Nat} (hC : CT l G y wsy rm (.ref b :: As) wc Post mc ms) (hG : GoodIn Ts wsy) (hini : Cond.initialized y.cls ∈ Ts) (hlk : Cond.methodLink own index y ∈ Ts) (hins : Cond.instanceMethod y ∈ Ts) (hy1 : y.name = "<init>") (hcode : wsy = Cond.code y bytes maxL none :: wsy') (hrm : rm.cells = mc ∧ rm.slots = ms) (hd : y.cls ≠ "java/lang/invoke/MethodHandle" ∧ y.cls ≠ "java/lang/invoke/VarHandle" ∧ (parseMethodDescriptor y.desc).map (fun d => d.parameters.length) = some n) (hR : rm.frames + 1 ≤ R.frames ∧ 8 + (maxL + 11) + rm.locals ≤ R.locals) (hn : As.length = n) (hl : ls.size = nL) (hst : st = As.reverse ++ .ref b :: rest) (hcat : (rest.map fun v => v.category).sum ≤ 8) (hdg : decode cc pc = .ok (.invokespecial index, 3)) (hf : cells + mc ≤ R.cells ∧ slots + ms ≤ R.slots)
    {wr : va_W} (isC isR : List Nat) (hIC : isC.map (fun i => ws[i]?) = wc.map some) (hIR : isR.map (fun i => ws[i]?) = wr.map some) (hnC : va_nd isC = true) (hnR : va_nd isR = true) (hdis : ∀ i ∈ isR, i ∉ isC)
    (kk : ∀ (r : Option Value) (w1 : va_W) (H1 : Heap) (locs1 : List Loc), Post r w1 → WS G A s.heap H1 locs1 (wr ++ w1) → W p l e R s m args below meth c H1 locs1 (cells + mc) (slots + ms) Q (F0 m (pc + 3) ls (r.toList ++ rest))) : W p l e R s m args below meth c H locs cells slots Q (F0 m pc ls st) := by
  obtain ⟨hx, hb, hml, hown, hts, hK, hA, hnn⟩ := id X
  exact x_call X hw (va_runI ⟨hx, hb, hml, hown, hts⟩ (hC H.size) (cwI n hts hG hcode hrm.1 hrm.2 (hts _ hini) (hts _ hlk) (hts _ hins) hy1 hd hR) ⟨ct_blind, ct_pre X (ws_part hw isC hIC) (hw.2.1.sub isC hnC hIC)⟩ rfl hn hl hst (lv_room hcat) hdg hf) isC isR hIC hIR hnR hdis kk
end ROWS
