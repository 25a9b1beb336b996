/-! What the small tests say. -/
def bi (b : Bool) : Int32 := if b then 1 else 0
theorem bi_nar (b : Bool) : narrow .boolean (.int (bi b)) = .int (bi b) := by cases b <;> decide
theorem bi_t {b : Bool} (h : ¬ bi b = 0) : b = true := by cases b with | false => exact absurd rfl h | true => rfl
theorem bi_f {b : Bool} (h : bi b = 0) : b = false := by cases b with | false => rfl | true => exact absurd h (by decide)
def inS (x : Int32) : Bool := decide (0 ≤ x) && decide (x ≤ 60)
def inL (x : Int32) : Bool := decide (1 ≤ x) && decide (x ≤ 60)
def inP (x : Int32) : Bool := decide (0 ≤ x) && decide (x < 360)
def inG (x : Int32) : Bool := decide (x = 0) || decide (x = 1)
def inA (x : Int32) : Bool := (decide (0 ≤ x) && decide (x ≤ 2)) || decide (10 ≤ x)
def inR (k x : Int32) : Bool := if k = 0 then decide (2 ≤ x) && decide (x ≤ 7) else decide (k = 1) && (decide (1 ≤ x) && decide (x ≤ 20))
section CV
variable {p : Program} {l : Launch} {e : Env} {R : Room} {s : State} {m : MethodId} {args : Array Value} {below : List Frame} {meth : Method} {c : Code} {H : Heap} {locs : List Loc} {cells slots : Nat} {Q : State → Prop} {pc : Nat} {ls : Array Slot} {rest : List Value}
theorem x_cvi {x y : Int32} (h : x = y) (k : W p l e R s m args below meth c H locs cells slots Q (F0 m pc ls (.int y :: rest))) : W p l e R s m args below meth c H locs cells slots Q (F0 m pc ls (.int x :: rest)) := by rw [h]; exact k
theorem x_cvl {x y : Int64} (h : x = y) (k : W p l e R s m args below meth c H locs cells slots Q (F0 m pc ls (.long y :: rest))) : W p l e R s m args below meth c H locs cells slots Q (F0 m pc ls (.long x :: rest)) := by rw [h]; exact k
end CV
