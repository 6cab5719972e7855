/-! the pool of the reference by its fields -/
abbrev SG : Type := Nat → Nat → Int32
abbrev MU : Type := Nat → Int64
def aM (f : Nat) : Bool := decide (2 ≤ f) && decide (f ≤ 48) && !(f == 14) && !(f == 23) && !(f == 40)
def cM (f : Nat) : Bool := f == 0 || f == 1 || f == 14 || f == 23 || f == 40 || f == 49
def kM (f : Nat) : Nat := if f = 48 then 13 else if f = 12 ∨ f = 20 ∨ f = 37 ∨ f = 38 ∨ f = 39 ∨ f = 45 then 14 else 12
def lM (f : Nat) : Nat := if f ≤ 11 then 6 else if f ≤ 13 then 240 else if f ≤ 22 then 30 else if f ≤ 38 then 24 else if f = 39 then 576 else if f ≤ 45 then 1024 else if f ≤ 47 then 5 else 6
section RMs
variable {A : Nat → Nat} {m : Nat} {S : PT} {σ : SG} {μ : MU}
theorem up2_s {α : Type} (f : Nat → Nat → α) (i a : Nat) (v : α) : up2 f i a v i a = v := by simp [up2]
theorem up2_f {α : Type} (f : Nat → Nat → α) {i j : Nat} (a b : Nat) (v : α) (h : j ≠ i) : up2 f i a v j b = f j b := by simp [up2, h]
theorem up2_i {α : Type} (f : Nat → Nat → α) {i j a b : Nat} (v : α) (h : b ≠ a) : up2 f i a v j b = f j b := by simp [up2, h]
end RMs
