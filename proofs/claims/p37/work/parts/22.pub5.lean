/-! filling, plates, extending, stopping -/
section Q
variable {A : Nat → Nat} {m : Nat} {S : PT} {σ : SG} {μ : MU}
noncomputable def q_fill (σ : SG) (x y d : Int32) : Int32 := iT (¬ z_of σ x y) 1 (iT (¬ (0 ≤ d ∧ d ≤ 100)) 2 (iT (¬ σ 13 (z_at σ x.toNatClampNeg y) = x) 3 0))
def u_fill (σ : SG) (x y d : Int32) : SG :=
  up2 (up2 (up2 (up2 (up2 (up2 (up2 σ 49 0 0) 13 (z_at σ x.toNatClampNeg y) (-1)) 41 (σ 40 0).toNatClampNeg (nI (z_at σ x.toNatClampNeg y))) 42 (σ 40 0).toNatClampNeg x) 43 (σ 40 0).toNatClampNeg (z_today σ)) 44 (σ 40 0).toNatClampNeg d) 40 0 (σ 40 0 + 1)
noncomputable def q_plate (σ : SG) (x : Int32) : Int32 := iT (¬ (0 ≤ x ∧ x ≤ σ 23 0 - 1)) 1 (iT (¬ σ 33 x.toNatClampNeg = 3) 2 0)
noncomputable def u_plate (σ : SG) (x : Int32) : SG := up2 (up2 σ 49 0 0) 37 x.toNatClampNeg (iT (σ 37 x.toNatClampNeg = 0) 1 0)
/-- two days more -/
def z_two (σ : SG) (k : Nat) : SG := up2 σ 31 k (σ 31 k + 2)
noncomputable def q_extend (σ : SG) (x : Int32) (nW : Nat) : Int32 := iT (¬ (0 ≤ x ∧ x ≤ σ 23 0 - 1)) 1 (iT (¬ σ 33 x.toNatClampNeg = 3 ∨ σ 36 x.toNatClampNeg ≤ 0) 2 (iT (z_met (z_two σ x.toNatClampNeg) x.toNatClampNeg nW) 2 0))
def u_extend (σ : SG) (x : Int32) : SG := up2 (up2 (z_two σ x.toNatClampNeg) 49 0 0) 36 x.toNatClampNeg (σ 36 x.toNatClampNeg - 1)
noncomputable def q_stop (σ : SG) (x : Int32) : Int32 := iT (¬ (0 ≤ x ∧ x ≤ σ 23 0 - 1)) 1 (iT (¬ σ 33 x.toNatClampNeg = 3 ∨ ¬ z_opens σ x = 0) 2 0)
def u_stop (σ : SG) (x : Int32) : SG := up2 (up2 (up2 σ 49 0 0) 33 x.toNatClampNeg 4) 37 x.toNatClampNeg 0
end Q
