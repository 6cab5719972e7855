/-! what the reference changes -/
def z_pay (μ : MU) (a b : Nat) (c : Int32) : MU := vp_updL (vp_updL μ a (μ a - c.toInt64)) b (vp_updL μ a (μ a - c.toInt64) b + c.toInt64)
section Q
variable {A : Nat → Nat} {m : Nat} {S : PT} {σ : SG} {μ : MU}
theorem r_pays (R : RM A m S σ μ) {a b : Int32} (ha : vp_in a 6) (hb : vp_in b 6) (c : Int32) {post : PT → Prop} (h : ∀ S', RM A m S' σ (z_pay μ a.toNatClampNeg b.toNatClampNeg c) → post S') : w_X9_pays m a b c S post := by
  unfold w_X9_pays
  simp only [RM_all R, Option.some.injEq, exists_eq_left', true_and, and_true, isIn_eq, bI_0, Classical.not_not, bo_0, bo_1, bI_bo, up2_s, up2_f, ne_eq, Nat.reduceEqDiff, not_false_eq_true, ha]
  refine RM_uB R (fun S1 R1 => ?_)
  simp only [RM_all R1, Option.some.injEq, exists_eq_left', true_and, and_true, isIn_eq, bI_0, Classical.not_not, bo_0, bo_1, bI_bo, up2_s, up2_f, ne_eq, Nat.reduceEqDiff, not_false_eq_true, hb]
  exact RM_uB R1 (fun S2 R2 => h S2 R2)
theorem r_goes (R : RM A m S σ μ) (t : Int32) {post : Int32 → PT → Prop} (h : ∀ S', RM A m S' (up2 σ 49 0 t) μ → post (bI (t = 0)) S') : w_X9_goes m t S post := by
  unfold w_X9_goes w_X9_goes_b14
  simp only [RM_all R, Option.some.injEq, exists_eq_left', true_and, and_true, isIn_eq, bI_0, Classical.not_not, bo_0, bo_1, bI_bo, up2_s, up2_f, ne_eq, Nat.reduceEqDiff, not_false_eq_true, br2']
  refine RM_uI R 49 rfl rfl (fun S1 R1 => ?_)
  have h1 := h S1 R1
  by_cases ht : t = 0
  · rw [iT_T ht]; rw [bI_T ht] at h1; exact h1
  · rw [iT_F ht]; rw [bI_F ht] at h1; exact h1
noncomputable def q_street (σ : SG) (a b c d : Int32) : Int32 := iT (¬ d = -1 ∧ ¬ (0 ≤ d ∧ d ≤ σ 1 0 - 1)) 1 (iT (¬ ((1 ≤ a ∧ a ≤ 40) ∧ (0 ≤ b ∧ b ≤ 3) ∧ 0 ≤ c ∧ c ≤ 999)) 2 (iT (σ 1 0 = 6) 3 0))
def u_street (σ : SG) (a b c d : Int32) : SG := up2 (up2 (up2 (up2 (up2 (up2 σ 49 0 0) 2 (σ 1 0).toNatClampNeg a) 3 (σ 1 0).toNatClampNeg b) 4 (σ 1 0).toNatClampNeg c) 5 (σ 1 0).toNatClampNeg d) 1 0 (σ 1 0 + 1)
theorem r_street (R : RM A m S σ μ) (B : IB σ) (a b c d : Int32) (post : Int32 → PT → Prop)
    (hx : ∀ S', ¬ q_street σ a b c d = 0 → RM A m S' (up2 σ 49 0 (q_street σ a b c d)) μ → post 0 S')
    (h : ∀ S', q_street σ a b c d = 0 → RM A m S' (u_street σ a b c d) μ → post (σ 1 0 + 1 - 1) S') : w_X9_street m a b c d S post := by
  have e : w_X9_street m a b c d S post = w_X9_street_b80 m a b c d post S (some m) (q_street σ a b c d) := by
    unfold w_X9_street w_X9_street_b34 w_X9_street_b35 w_X9_street_b57
    simp only [RM_all R, Option.some.injEq, exists_eq_left', true_and, and_true, isIn_eq, bI_0, Classical.not_not, bo_0, bo_1, bI_bo, forall_eq, r_isStreet R, br2, br2']
    unfold q_street
    ((try simp only [iT]) <;> (repeat' split) <;> first | rfl | grind | (exfalso; simp_all; done) | (simp_all; done) | (simp only [ile, ilt] at *; (repeat' split) <;> first | rfl | (exfalso; omega) | (exfalso; simp_all; done)))
  rw [e]
  generalize hq : q_street σ a b c d = t at *
  unfold w_X9_street_b80
  simp only [RM_all R, Option.some.injEq, exists_eq_left', true_and, and_true, isIn_eq, bI_0, Classical.not_not, bo_0, bo_1, bI_bo, up2_s, up2_f, ne_eq, Nat.reduceEqDiff, not_false_eq_true]
  refine r_goes R _ (fun S1 R1 => ⟨fun ht => ?_, fun ht => hx S1 (by rw [bI_0] at ht; exact ht) R1⟩)
  rw [bI_0, Classical.not_not] at ht
  subst ht
  have hv : vp_in (σ 1 0) 6 := by
    unfold q_street at hq
    have h6 : ¬ σ 1 0 = 6 := by intro e6; rw [iT_T e6] at hq; revert hq; unfold iT; split <;> (try split) <;> decide
    have := B 1 0
    simp only [bl, bh] at this
    rw [ieq, show (6 : Int32).toInt = 6 from by decide] at h6
    unfold vp_in Int32.toNatClampNeg
    rw [ilt, I0]; simp at this; omega
  simp only [RM_all R1, Option.some.injEq, exists_eq_left', true_and, and_true, isIn_eq, bI_0, Classical.not_not, bo_0, bo_1, bI_bo, up2_s, up2_f, ne_eq, Nat.reduceEqDiff, not_false_eq_true, hv]
  refine RM_uA R1 rfl (by decide) (fun S2 R2 => ?_)
  simp only [RM_all R2, Option.some.injEq, exists_eq_left', true_and, and_true, isIn_eq, bI_0, Classical.not_not, bo_0, bo_1, bI_bo, up2_s, up2_f, ne_eq, Nat.reduceEqDiff, not_false_eq_true, hv]
  refine RM_uA R2 rfl (by decide) (fun S3 R3 => ?_)
  simp only [RM_all R3, Option.some.injEq, exists_eq_left', true_and, and_true, isIn_eq, bI_0, Classical.not_not, bo_0, bo_1, bI_bo, up2_s, up2_f, ne_eq, Nat.reduceEqDiff, not_false_eq_true, hv]
  refine RM_uA R3 rfl (by decide) (fun S4 R4 => ?_)
  simp only [RM_all R4, Option.some.injEq, exists_eq_left', true_and, and_true, isIn_eq, bI_0, Classical.not_not, bo_0, bo_1, bI_bo, up2_s, up2_f, ne_eq, Nat.reduceEqDiff, not_false_eq_true, hv]
  refine RM_uA R4 rfl (by decide) (fun S5 R5 => ?_)
  simp only [RM_all R5, Option.some.injEq, exists_eq_left', true_and, and_true, isIn_eq, bI_0, Classical.not_not, bo_0, bo_1, bI_bo, up2_s, up2_f, ne_eq, Nat.reduceEqDiff, not_false_eq_true]
  refine RM_uI R5 1 rfl rfl (fun S6 R6 => ?_)
  simp only [RM_all R6, Option.some.injEq, exists_eq_left', true_and, and_true, isIn_eq, bI_0, Classical.not_not, bo_0, bo_1, bI_bo, up2_s, up2_f, ne_eq, Nat.reduceEqDiff, not_false_eq_true]
  exact h S6 rfl R6
end Q
