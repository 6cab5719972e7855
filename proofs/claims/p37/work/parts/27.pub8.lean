/-! metres, searches, queues, holes that are due, money -/
section Q
variable {A : Nat → Nat} {m : Nat} {S : PT} {σ : SG} {μ : MU}
noncomputable def q_metre (σ : SG) (x y w : Int32) : Int32 := iT (¬ z_mt σ x y) 1 (iT (¬ (0 ≤ w ∧ w ≤ 3)) 2 0)
def z_mat (x y : Int32) : Nat := 40 * x.toNatClampNeg + y.toNatClampNeg
noncomputable def z_mwhat (σ : SG) (x y w : Int32) (nT nF : Nat) : Int32 :=
  iT (w = 0) (bI (aN (fun t => z_susB σ t x y) nT)) (iT (w = 1) (iT (σ 12 (z_mat x y) = 0) 0 1) (iT (w = 2) (σ 13 (z_mat x y)) (nI (cN (fun k => σ 41 k = z_q x y) nF))))
noncomputable def q_search (σ : SG) (x a b : Int32) : Int32 := iT (¬ (z_mt σ x a ∧ z_mt σ x b)) 1 (iT (¬ a ≤ b) 2 0)
def z_sr (σ : SG) (x a b : Int32) (t : Nat) : Prop := ¬ σ 20 t = 0 ∧ σ 16 t = x ∧ σ 21 t ≤ b ∧ a ≤ σ 22 t
theorem q_or0 (x : Int32) : x ||| 0 = x := Int32.or_zero
noncomputable def q_st (σ : SG) (x : Int32) : Int32 := iT (¬ (0 ≤ x ∧ x ≤ σ 1 0 - 1)) 1 0
noncomputable def q_pr (x : Int32) : Int32 := iT (¬ (0 ≤ x ∧ x ≤ 4)) 1 0
def z_fb (σ : SG) (x : Int32) (k : Nat) : Prop := σ 24 (σ 42 k).toNatClampNeg = x
noncomputable def z_hun (f : Int32) : Int32 := iT (5 + 5 * f ≤ 50) (5 + 5 * f) 50
noncomputable def z_due (σ : SG) (x : Int32) (nF : Nat) : Int32 :=
  iT (0 ≤ (nI (cN (z_fb σ x) nF) * z_hun (σ 46 x.toNatClampNeg) + 99) / 100 - σ 47 x.toNatClampNeg) ((nI (cN (z_fb σ x) nF) * z_hun (σ 46 x.toNatClampNeg) + 99) / 100 - σ 47 x.toNatClampNeg) 0
noncomputable def q_mo (x : Int32) : Int32 := iT (¬ (0 ≤ x ∧ x ≤ 5)) 1 0
theorem mo_in {x : Int32} (h : q_mo x = 0) : ∃ p : Nat, p < 6 ∧ x = nI p := by
  obtain ⟨h1, -⟩ := q1 (by decide) h
  rw [Classical.not_not] at h1
  obtain ⟨p, hp, e, -⟩ := ex_nI (x := x) (n := 6) (by rw [not_lt32]; exact h1.1) (by have := h1.2; rw [ile, show (5 : Int32).toInt = 5 from by decide] at this; omega)
  exact ⟨p, hp, e⟩
end Q
