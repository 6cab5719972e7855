/-! the reference's questions -/
def z_today (σ : SG) : Int32 := σ 0 0 / 24
def z_busy (σ : SG) : Prop := (7 ≤ σ 0 0 - σ 0 0 / 24 * 24 ∧ σ 0 0 - σ 0 0 / 24 * 24 ≤ 9) ∨ (16 ≤ σ 0 0 - σ 0 0 / 24 * 24 ∧ σ 0 0 - σ 0 0 / 24 * 24 ≤ 18)
def z_last (σ : SG) (k : Nat) : Int32 := σ 30 k + σ 31 k - 1
noncomputable def z_end (σ : SG) (k : Nat) : Int32 := iT (σ 33 k = 3 ∧ ¬ z_today σ ≤ z_last σ k) (z_today σ) (z_last σ k)
def z_has (σ : SG) (k : Nat) (a b : Int32) : Prop := σ 30 k ≤ b ∧ a ≤ z_end σ k
def z_on (σ : SG) (k : Nat) : Prop := σ 33 k = 1 ∨ σ 33 k = 3
section Q
variable {A : Nat → Nat} {m : Nat} {S : PT} {σ : SG} {μ : MU}
theorem not_lt32 {a b : Int32} : (¬ a < b) = (b ≤ a) := by rw [ile, ilt]; exact propext (by omega)
theorem not_le32 {a b : Int32} : (¬ a ≤ b) = (b < a) := by rw [ile, ilt]; exact propext (by omega)
end Q
