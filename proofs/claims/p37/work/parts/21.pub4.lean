/-! the calls on digging -/
def z_of (σ : SG) (x y : Int32) : Prop := (0 ≤ x ∧ x ≤ σ 23 0 - 1) ∧ σ 26 x.toNatClampNeg ≤ y ∧ y ≤ σ 27 x.toNatClampNeg
def z_off (σ : SG) (k q : Nat) (y : Int32) (nT : Nat) : Prop := ¬ σ 33 k = 3 ∨ ¬ σ 37 k = 0 ∨ (¬ σ 34 k &&& 1 = 0 ∧ z_busy σ) ∨ ¬ σ 13 q = -1 ∨ (σ 12 q = 0 ∧ aN (fun t => z_susB σ t (σ 25 k) y) nT)
def z_hit (σ : SG) (k : Nat) (y : Int32) (t : Nat) : Prop := z_lies σ t (σ 25 k) y ∧ σ 19 t ≤ σ 28 k
noncomputable def z_smu (σ : SG) (μ : MU) (k : Nat) (y : Int32) : Nat → MU
  | 0 => μ
  | n + 1 => iT (z_hit σ k y n) (z_pay (z_smu σ μ k y n) (σ 24 k).toNatClampNeg (σ 15 n).toNatClampNeg 1000) (z_smu σ μ k y n)
/-- the place of a metre -/
def z_at (σ : SG) (k : Nat) (y : Int32) : Nat := 40 * (σ 25 k).toNatClampNeg + y.toNatClampNeg
theorem of_in {σ : SG} (B : IB σ) {x y : Int32} (h : z_of σ x y) : ∃ k s b : Nat, x = nI k ∧ y = nI b ∧ k < 24 ∧ b < 40 ∧ σ 25 k = nI s ∧ s < 6 ∧ z_at σ k y = 40 * s + b := by
  obtain ⟨k, hk, rfl, hk2⟩ := vin_ex (wk_in B h.1)
  have h2 := h.2
  rw [qn_nat hk2, ile, ile] at h2
  have b1 := B 26 k
  have b2 := B 27 k
  simp only [bl, bh] at b1 b2
  have a2 := Ihi y
  have : ∃ b : Nat, y = nI b ∧ b < 40 := by
    refine ⟨y.toInt.toNat, ?_, by simp at b1 b2; omega⟩
    rw [ieq, nI_toInt (by omega)]
    simp at b1; omega
  obtain ⟨b, rfl, hb⟩ := this
  obtain ⟨s, es, hs, hs2⟩ := IB_nI B 25 k rfl
  have hs : (s : Int) ≤ 5 := hs
  refine ⟨k, s, b, rfl, rfl, hk, hb, es, by omega, ?_⟩
  unfold z_at
  rw [es, qn_nat hs2, qn_nat (by omega)]
theorem up2_id (σ : SG) (f i : Nat) (v : Int32) : up2 (up2 σ f i v) f i (σ f i) = σ := by
  funext g j
  unfold up2
  by_cases e : g = f ∧ j = i
  · rw [if_pos e, e.1, e.2]
  · rw [if_neg e, if_neg e]
theorem IB_31 {σ : SG} (B : IB σ) (k : Nat) (t : Int32) : IB (up2 σ 31 k t) := IB_up B 31 k (Ilo t) (by have := Ihi t; simp only [bh]; omega)
section Q
variable {A : Nat → Nat} {m : Nat} {S : PT} {σ : SG} {μ : MU}
noncomputable def q_open (σ : SG) (x y : Int32) (nT : Nat) : Int32 := iT (¬ z_of σ x y) 1 (iT (z_off σ x.toNatClampNeg (z_at σ x.toNatClampNeg y) y nT) 2 0)
noncomputable def z_struck (σ : SG) (k : Nat) (y : Int32) (nT : Nat) : Int32 := iT (σ 12 (z_at σ k y) = 0) (nI (cN (z_hit σ k y) nT)) 0
noncomputable def u_open (σ : SG) (x y : Int32) (nT : Nat) : SG := up2 (up2 (up2 (up2 σ 49 0 0) 36 x.toNatClampNeg (σ 36 x.toNatClampNeg + z_struck σ x.toNatClampNeg y nT)) 12 (z_at σ x.toNatClampNeg y) 1) 13 (z_at σ x.toNatClampNeg y) x
noncomputable def m_open (σ : SG) (μ : MU) (x y : Int32) (nT : Nat) : MU := iT (σ 12 (z_at σ x.toNatClampNeg y) = 0) (z_smu σ μ x.toNatClampNeg y nT) μ
theorem z_hit_49 (σ : SG) (t : Int32) (k : Nat) (y : Int32) : z_hit (up2 σ 49 0 t) k y = z_hit σ k y := by
  funext i; simp only [z_hit, z_lies, up2_f, ne_eq, Nat.reduceEqDiff, not_false_eq_true]
theorem z_smu_49 (σ : SG) (t : Int32) (μ : MU) (k : Nat) (y : Int32) : ∀ n, z_smu (up2 σ 49 0 t) μ k y n = z_smu σ μ k y n
  | 0 => rfl
  | n + 1 => by
    rw [z_smu, z_smu, z_smu_49 σ t μ k y n, z_hit_49]
    simp only [up2_f, ne_eq, Nat.reduceEqDiff, not_false_eq_true]
end Q
