/-! MY POOL: kinds 1..10 = classes X0..X9 (place in vwCl: the kind), 11 = ArrayList (place 0), 12 int[], 13 long[], 14 boolean[], 15.. arrays of Metre, Party, Street, Thing, Works, Object; 0: not in the pool. Field id = 100 * kind + slot. -/
abbrev PT : Type := (Nat → Nat) × (Nat → Nat → Int32) × (Nat → Nat → Int64) × (Nat → Nat → Option Nat) × (Nat → Nat) × (Nat → Nat → Int32) × (Nat → Nat → Int64) × (Nat → Nat → Option Nat)
def gK (S : PT) : Nat → Nat := S.1
def gI (S : PT) : Nat → Nat → Int32 := S.2.1
def gJ (S : PT) : Nat → Nat → Int64 := S.2.2.1
def gP (S : PT) : Nat → Nat → Option Nat := S.2.2.2.1
def gN (S : PT) : Nat → Nat := S.2.2.2.2.1
def gA (S : PT) : Nat → Nat → Int32 := S.2.2.2.2.2.1
def gB (S : PT) : Nat → Nat → Int64 := S.2.2.2.2.2.2.1
def gR (S : PT) : Nat → Nat → Option Nat := S.2.2.2.2.2.2.2
def up2 {α : Type} (f : Nat → Nat → α) (i a : Nat) (v : α) : Nat → Nat → α := fun j b => if j = i ∧ b = a then v else f j b
def sI (S : PT) (f a : Nat) (v : Int32) : PT := (gK S, up2 (gI S) f a v, gJ S, gP S, gN S, gA S, gB S, gR S)
def sJ (S : PT) (f a : Nat) (v : Int64) : PT := (gK S, gI S, up2 (gJ S) f a v, gP S, gN S, gA S, gB S, gR S)
def sP (S : PT) (f a : Nat) (v : Option Nat) : PT := (gK S, gI S, gJ S, up2 (gP S) f a v, gN S, gA S, gB S, gR S)
def sA (S : PT) (a i : Nat) (v : Int32) : PT := (gK S, gI S, gJ S, gP S, gN S, va_up (gA S) a (upd (gA S a) i v), gB S, gR S)
def sB (S : PT) (a i : Nat) (v : Int64) : PT := (gK S, gI S, gJ S, gP S, gN S, gA S, va_up (gB S) a (vp_updL (gB S a) i v), gR S)
def sR (S : PT) (a i : Nat) (v : Option Nat) : PT := (gK S, gI S, gJ S, gP S, gN S, gA S, gB S, va_up (gR S) a (va_up (gR S a) i v))
/-- a new object at q, of kind k -/
def nO (S : PT) (q k : Nat) : PT := (va_up (gK S) q k, (fun f b => if b = q then 0 else gI S f b), (fun f b => if b = q then 0 else gJ S f b), (fun f b => if b = q then none else gP S f b), gN S, gA S, gB S, gR S)
/-- a new array at q, of kind k, of n places -/
def nA (S : PT) (q k n : Nat) : PT := (va_up (gK S) q k, gI S, gJ S, gP S, va_up (gN S) q n, va_up (gA S) q (fun _ => 0), va_up (gB S) q (fun _ => 0), va_up (gR S) q (fun _ => none))
def bo (x : Int32) : Prop := vp_nar .boolean x = x
theorem bo_0 : bo 0 := by unfold bo; decide +kernel
theorem bo_1 : bo 1 := by unfold bo; decide +kernel
theorem bo_01 {x : Int32} (h : x = 0 ∨ x = 1) : bo x := by rcases h with rfl | rfl; exact bo_0; exact bo_1
theorem bo_nar {x : Int32} (h : bo x) : narrow .boolean (.int x) = .int x := by
  unfold bo vp_nar at h
  revert h
  cases hh : narrow .boolean (.int x) with
  | int y => intro h; rw [show y = x from h]
  | _ => simp [narrow] at hh
/-- the length of a list's row: the empty one is none of the pool -/
def eN (e0 : Nat) (S : PT) (a : Nat) : Nat := if a = e0 then 0 else gN S a
def cpA (S : PT) (a : Nat) (f : Nat → Int32) : PT := (gK S, gI S, gJ S, gP S, gN S, va_up (gA S) a f, gB S, gR S)
def cpR (S : PT) (a : Nat) (f : Nat → Option Nat) : PT := (gK S, gI S, gJ S, gP S, gN S, gA S, gB S, va_up (gR S) a f)
/-- the empty pool -/
def P0 : PT := (fun _ => 0, fun _ _ => 0, fun _ _ => 0, fun _ _ => none, fun _ => 0, fun _ _ => 0, fun _ _ => 0, fun _ _ => none)
