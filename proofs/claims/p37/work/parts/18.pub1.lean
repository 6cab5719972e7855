/-! the calls on streets and things -/
theorem q1 {P : Prop} {a X : Int32} (ha : ¬ a = 0) (h : iT P a X = 0) : ¬ P ∧ X = 0 := by
  by_cases e : P
  · rw [iT_T e] at h; exact absurd h ha
  · rw [iT_F e] at h; exact ⟨e, h⟩
theorem below_in {x y : Int32} {n : Nat} (hy : y.toInt ≤ n) (h0 : 0 ≤ y.toInt) (h : 0 ≤ x ∧ x ≤ y - 1) : vp_in x n := by
  have a1 := h.1; have a2 := h.2; have a4 := Ihi x
  rw [ile, I0] at a1
  rw [ile, tsub, show (1 : Int32).toInt = 1 from by decide] at a2
  unfold vp_in Int32.toNatClampNeg
  rw [ilt, I0]; omega
theorem wk_in {σ : SG} (B : IB σ) {x : Int32} (h : 0 ≤ x ∧ x ≤ σ 23 0 - 1) : vp_in x 24 := below_in (B 23 0).2 (B 23 0).1 h
theorem th_in {σ : SG} (B : IB σ) {x : Int32} (h : 0 ≤ x ∧ x ≤ σ 14 0 - 1) : vp_in x 30 := below_in (B 14 0).2 (B 14 0).1 h
theorem st_in {σ : SG} (B : IB σ) {x : Int32} (h : 0 ≤ x ∧ x ≤ σ 1 0 - 1) : vp_in x 6 := below_in (B 1 0).2 (B 1 0).1 h
/-- a metre of a street -/
def z_mt (σ : SG) (s y : Int32) : Prop := (0 ≤ s ∧ s ≤ σ 1 0 - 1) ∧ 0 ≤ y ∧ y ≤ σ 2 s.toNatClampNeg - 1
theorem mt_in {σ : SG} (B : IB σ) {s y : Int32} (h : z_mt σ s y) : ∃ a b : Nat, s = nI a ∧ y = nI b ∧ a < 6 ∧ b < 40 := by
  obtain ⟨a, ha, rfl, -⟩ := vin_ex (st_in B h.1)
  obtain ⟨b, hb, rfl, -⟩ := vin_ex (below_in (n := 40) (B 2 _).2 (B 2 _).1 h.2)
  exact ⟨a, b, rfl, rfl, ha, hb⟩
theorem at_eq (a b : Nat) : (40 : Int32) * nI a + nI b = nI (40 * a + b) := by rw [qn_lit40, qn_mul, qn_add]
section Q
variable {A : Nat → Nat} {m : Nat} {S : PT} {σ : SG} {μ : MU}
noncomputable def q_surface (σ : SG) (x : Int32) : Int32 := iT (¬ (0 ≤ x ∧ x ≤ σ 1 0 - 1)) 1 (iT (¬ cN (fun i => ¬ σ 13 (40 * x.toNatClampNeg + i) = -1) 40 = 0) 2 0)
def u_surface (σ : SG) (x : Int32) : SG := up2 (up2 (up2 σ 49 0 0) 6 x.toNatClampNeg (z_today σ)) 7 x.toNatClampNeg (σ 40 0)
noncomputable def q_embargo (σ : SG) (x a b : Int32) : Int32 := iT (¬ (0 ≤ x ∧ x ≤ σ 1 0 - 1)) 1 (iT (¬ ((0 ≤ a ∧ a ≤ 999) ∧ a ≤ b ∧ b ≤ 999)) 2 0)
def u_embargo (σ : SG) (x a b : Int32) : SG := up2 (up2 (up2 σ 49 0 0) 8 x.toNatClampNeg a) 9 x.toNatClampNeg b
def z_caught (σ : SG) (x a b : Int32) (k : Nat) : Prop := σ 25 k = x ∧ σ 33 k = 1 ∧ z_has σ k a b
noncomputable def q_lose (σ : SG) (x : Int32) : Int32 := iT (¬ (0 ≤ x ∧ x ≤ σ 14 0 - 1)) 1 0
def u_lose (σ : SG) (x : Int32) : SG := up2 (up2 σ 49 0 0) 20 x.toNatClampNeg 0
theorem bo_IB {σ : SG} (B : IB σ) (f i : Nat) (h0 : bl f = 0) (h1 : bh f = 1) : bo (σ f i) := by
  have := B f i
  rw [h0, h1] at this
  refine bo_01 ?_
  rw [ieq, ieq, I0, show (1 : Int32).toInt = 1 from by decide]
  omega
end Q
