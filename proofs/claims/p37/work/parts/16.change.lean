/-! what the reference changes -/
def z_pay (μ : MU) (a b : Nat) (c : Int32) : MU := vp_updL (vp_updL μ a (μ a - c.toInt64)) b (vp_updL μ a (μ a - c.toInt64) b + c.toInt64)
section Q
variable {A : Nat → Nat} {m : Nat} {S : PT} {σ : SG} {μ : MU}
noncomputable def q_street (σ : SG) (a b c d : Int32) : Int32 := iT (¬ d = -1 ∧ ¬ (0 ≤ d ∧ d ≤ σ 1 0 - 1)) 1 (iT (¬ ((1 ≤ a ∧ a ≤ 40) ∧ (0 ≤ b ∧ b ≤ 3) ∧ 0 ≤ c ∧ c ≤ 999)) 2 (iT (σ 1 0 = 6) 3 0))
def u_street (σ : SG) (a b c d : Int32) : SG := up2 (up2 (up2 (up2 (up2 (up2 σ 49 0 0) 2 (σ 1 0).toNatClampNeg a) 3 (σ 1 0).toNatClampNeg b) 4 (σ 1 0).toNatClampNeg c) 5 (σ 1 0).toNatClampNeg d) 1 0 (σ 1 0 + 1)
end Q
