/-! meeting and barring -/
def z_near (σ : SG) (j k : Nat) : Prop := iT (σ 25 j = σ 25 k) (σ 26 j - σ 27 k ≤ 3 ∧ σ 26 k - σ 27 j ≤ 3) (σ 5 (σ 25 j).toNatClampNeg = σ 25 k ∨ σ 5 (σ 25 k).toNatClampNeg = σ 25 j)
def z_may (σ : SG) (j k : Nat) : Prop := (z_on σ j ∧ (z_on σ k ∨ σ 33 k = 0)) ∨ (z_on σ k ∧ σ 33 j = 0)
def z_meet (σ : SG) (j k : Nat) : Prop := z_may σ j k ∧ j ≠ k ∧ z_has σ j (σ 30 k) (z_end σ k) ∧ σ 39 (24 * j + k) = 0 ∧ z_near σ j k
def z_met (σ : SG) (j : Nat) : Nat → Prop := aN fun k => z_on σ k ∧ z_meet σ j k
section Q
variable {A : Nat → Nat} {m : Nat} {S : PT} {σ : SG} {μ : MU}
end Q
