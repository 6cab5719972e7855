/-! the calls on things in the ground -/
def z_uns (σ : SG) (lo hi : Nat) : SG := fun f i => if f = 12 ∧ lo ≤ i ∧ i < hi then 0 else σ f i
theorem z_uns_0 (σ : SG) (lo : Nat) : z_uns σ lo lo = σ := by
  funext f i
  unfold z_uns
  rw [if_neg (by omega)]
theorem z_uns_s (σ : SG) {lo hi : Nat} (h : lo < hi) : z_uns (up2 σ 12 lo 0) (lo + 1) hi = z_uns σ lo hi := by
  funext f i
  unfold z_uns up2
  by_cases h1 : f = 12
  · by_cases h2 : i = lo
    · rw [if_neg (by omega), if_pos ⟨h1, h2⟩, if_pos (by omega)]
    · by_cases h3 : lo + 1 ≤ i ∧ i < hi
      · rw [if_pos ⟨h1, h3⟩, if_pos (by omega)]
      · rw [if_neg (by omega), if_neg (by omega), if_neg (by omega)]
  · rw [if_neg (by omega), if_neg (by omega), if_neg (by omega)]
theorem z_uns_f (σ : SG) (lo hi : Nat) {f : Nat} (i : Nat) (h : f ≠ 12) : z_uns σ lo hi f i = σ f i := by
  unfold z_uns; rw [if_neg (by omega)]
def z_len (σ : SG) (s : Nat) : Nat := (σ 2 s).toNatClampNeg
theorem z_len_i {σ : SG} (B : IB σ) (s : Nat) : σ 2 s = nI (z_len σ s) ∧ z_len σ s ≤ 40 := by
  obtain ⟨k, e, h1, h2⟩ := IB_nI B 2 s rfl
  unfold z_len
  rw [e, qn_nat h2]
  refine ⟨rfl, ?_⟩
  have : (k : Int) ≤ 40 := h1
  omega
noncomputable def z_susN (σ : SG) (t : Nat) : Int32 := nI (cN (fun y => z_susB σ t (σ 16 t) (nI y)) (z_len σ (σ 16 t).toNatClampNeg))
section Q
variable {A : Nat → Nat} {m : Nat} {S : PT} {σ : SG} {μ : MU}
noncomputable def q_thing (σ : SG) (x1 x2 x3 x4 x5 : Int32) : Int32 := iT (¬ ((0 ≤ x1 ∧ x1 ≤ 4) ∧ z_mt σ x2 x3 ∧ z_mt σ x2 x4)) 1 (iT (¬ (¬ x4 < x3 ∧ 10 ≤ x5 ∧ x5 ≤ 300)) 2 (iT (σ 14 0 = 30) 3 0))
def u_thing (σ : SG) (x1 x2 x3 x4 x5 : Int32) : SG := up2 (z_uns (up2 (up2 (up2 (up2 (up2 (up2 σ 49 0 0) 15 (σ 14 0).toNatClampNeg x1) 16 (σ 14 0).toNatClampNeg x2) 17 (σ 14 0).toNatClampNeg x3) 18 (σ 14 0).toNatClampNeg x4) 19 (σ 14 0).toNatClampNeg x5) (40 * x2.toNatClampNeg + x3.toNatClampNeg) (40 * x2.toNatClampNeg + x4.toNatClampNeg + 1)) 14 0 (σ 14 0 + 1)
noncomputable def q_record (σ : SG) (x a b c : Int32) : Int32 := iT (¬ ((0 ≤ x ∧ x ≤ σ 14 0 - 1) ∧ z_mt σ (σ 16 x.toNatClampNeg) a ∧ z_mt σ (σ 16 x.toNatClampNeg) b)) 1 (iT (b < a ∨ ¬ (0 ≤ c ∧ c ≤ 3)) 2 0)
def u_record (σ : SG) (x a b c : Int32) : SG := up2 (up2 (up2 (up2 σ 49 0 0) 20 x.toNatClampNeg 1) 21 x.toNatClampNeg (a - c)) 22 x.toNatClampNeg (b + c)
def z_sure (σ : SG) (t : Nat) (y : Nat) : Prop := (σ 17 t ≤ nI y ∧ nI y ≤ σ 18 t) ∧ ¬ σ 12 (40 * (σ 16 t).toNatClampNeg + y) = 0
noncomputable def q_survey (σ : SG) (x : Int32) : Int32 := iT (¬ (0 ≤ x ∧ x ≤ σ 14 0 - 1)) 1 (iT (¬ aN (z_sure σ x.toNatClampNeg) 40) 2 0)
def u_survey (σ : SG) (x : Int32) : SG := up2 (up2 (up2 (up2 σ 49 0 0) 20 x.toNatClampNeg 1) 21 x.toNatClampNeg (σ 17 x.toNatClampNeg - 0)) 22 x.toNatClampNeg (σ 18 x.toNatClampNeg + 0)
noncomputable def q_trial (σ : SG) (x y : Int32) : Int32 := iT (¬ z_mt σ x y) 1 0
def u_trial (σ : SG) (x y : Int32) : SG := up2 (up2 σ 49 0 0) 12 (40 * x.toNatClampNeg + y.toNatClampNeg) 1
end Q
