/-! the calls on permits -/
section Q
variable {A : Nat → Nat} {m : Nat} {S : PT} {σ : SG} {μ : MU}
noncomputable def q_ask (σ : SG) (p s a b d k f n : Int32) : Int32 :=
  iT (¬ ((0 ≤ p ∧ p ≤ 4) ∧ z_mt σ s a ∧ z_mt σ s b)) 1
  (iT (¬ (¬ b < a ∧ (10 ≤ d ∧ d ≤ 300) ∧ (0 ≤ k ∧ k ≤ 3) ∧ 1 ≤ n ∧ n ≤ 60)) 2
  (iT (¬ (z_today σ + z_note k (σ 3 s.toNatClampNeg) ≤ f ∧ f ≤ 999)) 2 (iT (σ 23 0 = 24) 3 0)))
noncomputable def u_ask (σ : SG) (p s a b d k f n : Int32) : SG :=
  up2 (up2 (up2 (up2 (up2 (up2 (up2 (up2 (up2 (up2 (up2 (up2 σ 49 0 0) 24 (σ 23 0).toNatClampNeg p) 25 (σ 23 0).toNatClampNeg s) 26 (σ 23 0).toNatClampNeg a) 27 (σ 23 0).toNatClampNeg b) 28 (σ 23 0).toNatClampNeg d) 29 (σ 23 0).toNatClampNeg k) 30 (σ 23 0).toNatClampNeg f) 31 (σ 23 0).toNatClampNeg n) 32 (σ 23 0).toNatClampNeg (z_today σ)) 33 (σ 23 0).toNatClampNeg (iT (k = 3) 1 0)) 23 0 (σ 23 0 + 1)
/-- what a permit costs -/
noncomputable def z_cost (σ : SG) (j : Nat) : Int32 := iT (σ 29 j = 0) 60 (iT (σ 29 j = 1) 40 (iT (σ 29 j = 2) 20 0)) * (4 - σ 3 (σ 25 j).toNatClampNeg)
theorem five_in : vp_in 5 6 := vin_nI (k := 5) (by decide) (by decide)
theorem five_nat : (5 : Int32).toNatClampNeg = 5 := by decide
noncomputable def q_grant (σ : SG) (x c : Int32) (nW : Nat) : Int32 := iT (¬ (0 ≤ x ∧ x ≤ σ 23 0 - 1)) 1 (iT (¬ (0 ≤ c ∧ c ≤ 3)) 2 (iT (¬ σ 33 x.toNatClampNeg = 0 ∨ ¬ z_bars σ x.toNatClampNeg nW ≤ 0) 3 0))
noncomputable def u_grant (σ : SG) (x c : Int32) : SG := up2 (up2 (up2 σ 49 0 0) 33 x.toNatClampNeg 1) 34 x.toNatClampNeg c
theorem IB_49 {σ : SG} (B : IB σ) (t : Int32) : IB (up2 σ 49 0 t) := IB_up B 49 0 (Ilo t) (by have := Ihi t; simp only [bh]; omega)
noncomputable def q_refuse (σ : SG) (x : Int32) : Int32 := iT (¬ (0 ≤ x ∧ x ≤ σ 23 0 - 1)) 1 (iT (¬ σ 33 x.toNatClampNeg = 0 ∧ ¬ σ 33 x.toNatClampNeg = 1) 2 0)
def u_refuse (σ : SG) (x : Int32) : SG := up2 (up2 σ 49 0 0) 33 x.toNatClampNeg 2
noncomputable def q_vary (σ : SG) (x c : Int32) : Int32 := iT (¬ (0 ≤ x ∧ x ≤ σ 23 0 - 1)) 1 (iT (¬ (0 ≤ c ∧ c ≤ 3)) 2 (iT (¬ z_on σ x.toNatClampNeg) 3 0))
def u_vary (σ : SG) (x c : Int32) : SG := up2 (up2 (up2 σ 49 0 0) 34 x.toNatClampNeg c) 35 x.toNatClampNeg (σ 35 x.toNatClampNeg + 1)
noncomputable def q_exempt (σ : SG) (x : Int32) : Int32 := iT (¬ (0 ≤ x ∧ x ≤ σ 23 0 - 1)) 1 0
noncomputable def u_exempt (σ : SG) (x : Int32) : SG := up2 (up2 σ 49 0 0) 38 x.toNatClampNeg (iT (σ 38 x.toNatClampNeg = 0) 1 0)
theorem bo_iT {P : Prop} : bo (iT P 1 0) := by
  by_cases h : P
  · rw [iT_T h]; exact bo_1
  · rw [iT_F h]; exact bo_0
noncomputable def q_agree (σ : SG) (x y : Int32) : Int32 := iT (¬ ((0 ≤ x ∧ x ≤ σ 23 0 - 1) ∧ 0 ≤ y ∧ y ≤ σ 23 0 - 1)) 1 (iT (x = y) 2 0)
noncomputable def u_agree (σ : SG) (x y : Int32) : SG := up2 (up2 (up2 σ 49 0 0) 39 (24 * x.toNatClampNeg + y.toNatClampNeg) (iT (σ 39 (24 * x.toNatClampNeg + y.toNatClampNeg) = 0) 1 0)) 39 (24 * y.toNatClampNeg + x.toNatClampNeg) (iT (σ 39 (24 * x.toNatClampNeg + y.toNatClampNeg) = 0) 1 0)
theorem at24 (a b : Nat) : (24 : Int32) * nI a + nI b = nI (24 * a + b) := by rw [qn_lit24, qn_mul, qn_add]
noncomputable def q_start (σ : SG) (x : Int32) : Int32 := iT (¬ (0 ≤ x ∧ x ≤ σ 23 0 - 1)) 1 (iT (¬ σ 33 x.toNatClampNeg = 1 ∨ ¬ (σ 30 x.toNatClampNeg ≤ z_today σ ∧ z_today σ ≤ z_last σ x.toNatClampNeg)) 2 0)
def u_start (σ : SG) (x : Int32) : SG := up2 (up2 σ 49 0 0) 33 x.toNatClampNeg 3
end Q
