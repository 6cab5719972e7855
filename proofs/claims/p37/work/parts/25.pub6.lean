/-! defects, cores, what is asked -/
def z_q (x y : Int32) : Int32 := 40 * x + y
theorem iT_nT {α : Sort _} {a b : α} : iT (¬ True) a b = b := iT_F (fun n => n trivial)
theorem asks_in {x : Int32} (h : x = -1 ∨ ∃ w : Nat, w < 24 ∧ x = nI w) (hx : ¬ x = -1) : ∃ w : Nat, w < 24 ∧ x = nI w := h.resolve_left hx
theorem liab_in {σ : SG} (B : IB σ) (s : Nat) (q d : Int32) (nF : Nat) : z_liab σ s q d nF = -1 ∨ ∃ w : Nat, w < 24 ∧ z_liab σ s q d nF = nI w := by
  unfold z_liab z_by
  refine iT_ind (fun y => y = -1 ∨ ∃ w : Nat, w < 24 ∧ y = nI w) (fun _ => Or.inl rfl) (fun _ => iT_ind (fun y => y = -1 ∨ ∃ w : Nat, w < 24 ∧ y = nI w) (fun _ => Or.inl rfl) (fun _ => Or.inr ?_))
  obtain ⟨w, e, h1, -⟩ := IB_nI B 42 (laN (z_deep σ q d) nF).toNatClampNeg rfl
  have h1 : (w : Int) ≤ 23 := h1
  exact ⟨w, by omega, e⟩
noncomputable def z_first (P : Nat → Prop) : Nat → Nat → Int32
  | 0, _ => -1
  | d + 1, i => iT (P i) (nI i) (z_first P d (i + 1))
noncomputable def z_srch (P : Nat → Prop) : Nat → Int32
  | 0 => 0
  | n + 1 => z_srch P n ||| iT (P n) (1 <<< (nI n &&& 31)) 0
theorem z_srch_s (P : Nat → Prop) (n : Nat) : z_srch P (n + 1) = z_srch P n ||| iT (P n) (1 <<< (nI n &&& 31)) 0 := rfl
section Q
variable {A : Nat → Nat} {m : Nat} {S : PT} {σ : SG} {μ : MU}
noncomputable def q_asks (σ : SG) (x y d : Int32) : Int32 := iT (¬ z_mt σ x y) 1 (iT (¬ (0 ≤ d ∧ d ≤ 300)) 2 0)
theorem z_liab_49 (σ : SG) (t : Int32) (s : Nat) (q d : Int32) (nF : Nat) : z_liab (up2 σ 49 0 t) s q d nF = z_liab σ s q d nF := by
  have e : z_deep (up2 σ 49 0 t) q d = z_deep σ q d := by funext k; simp only [z_deep, up2_f, ne_eq, Nat.reduceEqDiff, not_false_eq_true]
  simp only [z_liab, e, z_by, z_old, z_today, up2_f, ne_eq, Nat.reduceEqDiff, not_false_eq_true]
/-- who is liable, and pays -/
noncomputable def u_defect (σ : SG) (w : Int32) : SG := iT (w = -1) (up2 σ 49 0 0) (up2 (up2 σ 49 0 0) 46 (σ 24 w.toNatClampNeg).toNatClampNeg (σ 46 (σ 24 w.toNatClampNeg).toNatClampNeg + 1))
noncomputable def m_defect (σ : SG) (μ : MU) (w : Int32) : MU := iT (w = -1) μ (z_pay μ (σ 24 w.toNatClampNeg).toNatClampNeg 5 300)
noncomputable def z_lat (σ : SG) (x y : Int32) (nF : Nat) : Int32 := laN (fun k => σ 41 k = z_q x y) nF
noncomputable def q_core (σ : SG) (x y : Int32) (nF : Nat) : Int32 := iT (¬ z_mt σ x y) 1 (iT (z_lat σ x y nF = -1 ∨ ¬ σ 45 (z_lat σ x y nF).toNatClampNeg = 0) 2 0)
noncomputable def z_pr (σ : SG) (f : Nat) : Nat := (σ 24 (σ 42 f).toNatClampNeg).toNatClampNeg
noncomputable def u_core (σ : SG) (f : Nat) : SG := up2 (up2 (up2 (up2 σ 49 0 0) 45 f 1) 47 (z_pr σ f) (σ 47 (z_pr σ f) + 1)) 46 (z_pr σ f) (σ 46 (z_pr σ f) + iT (80 ≤ σ 44 f) 0 1)
end Q
