/-! who takes a street, who is liable -/
def z_taken (σ : SG) (s : Int32) (nW : Nat) : Prop := aN (fun k => σ 25 k = s ∧ z_takes σ k) nW
def z_share (σ : SG) (j : Nat) (nW : Nat) : Prop := aN (fun k => ¬ σ 39 (24 * j + k) = 0 ∧ σ 25 k = σ 25 j ∧ z_takes σ k) nW
def z_deep (σ : SG) (q d : Int32) (k : Nat) : Prop := σ 41 k = q ∧ d ≤ σ 28 (σ 42 k).toNatClampNeg
def z_old (σ : SG) (k : Nat) : Prop := ¬ z_today σ - σ 43 k ≤ iT (σ 28 (σ 42 k).toNatClampNeg < 120) 200 300
/-- what the one who is asked for answers, found in the k-th row -/
noncomputable def z_by (σ : SG) (s : Nat) (d : Int32) (f : Int32) : Int32 :=
  iT (f = -1) (-1) (iT (z_old σ f.toNatClampNeg ∨ (¬ 10 ≤ d ∧ ¬ σ 7 s ≤ f)) (-1) (σ 42 f.toNatClampNeg))
noncomputable def z_liab (σ : SG) (s : Nat) (q d : Int32) (nF : Nat) : Int32 := z_by σ s d (laN (z_deep σ q d) nF)
theorem laN_s (P : Nat → Prop) (n : Nat) : laN P (n + 1) = iT (P n) (nI n) (laN P n) := rfl
section Q
variable {A : Nat → Nat} {m : Nat} {S : PT} {σ : SG} {μ : MU}
theorem q_le0 {n : Nat} (h : n < 1000000) : (nI n ≤ 0) = (n = 0) := by
  rw [show (0 : Int32) = nI 0 from rfl, qn_le (by omega) (by omega)]; exact propext (by omega)
theorem opens_le (σ : SG) (x : Int32) : z_opens σ x ≤ 240 := cN_le _ _
end Q
