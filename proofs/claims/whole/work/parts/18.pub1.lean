/-! the calls on streets and things -/
theorem q1 {P : Prop} {a X : Int32} (ha : ¬ a = 0) (h : iT P a X = 0) : ¬ P ∧ X = 0 := by
  by_cases e : P
  · rw [iT_T e] at h; exact absurd h ha
  · rw [iT_F e] at h; exact ⟨e, h⟩
theorem below_in {x y : Int32} {n : Nat} (hy : y.toInt ≤ n) (h0 : 0 ≤ y.toInt) (h : 0 ≤ x ∧ x ≤ y - 1) : vp_in x n := by
  have a1 := h.1; have a2 := h.2; have a4 := Ihi x
  rw [ile, I0] at a1
  rw [ile, tsub, show (1 : Int32).toInt = 1 from by decide] at a2
  unfold vp_in Int32.toNatClampNeg
  rw [ilt, I0]; omega
theorem wk_in {σ : SG} (B : IB σ) {x : Int32} (h : 0 ≤ x ∧ x ≤ σ 23 0 - 1) : vp_in x 24 := below_in (B 23 0).2 (B 23 0).1 h
theorem th_in {σ : SG} (B : IB σ) {x : Int32} (h : 0 ≤ x ∧ x ≤ σ 14 0 - 1) : vp_in x 30 := below_in (B 14 0).2 (B 14 0).1 h
theorem st_in {σ : SG} (B : IB σ) {x : Int32} (h : 0 ≤ x ∧ x ≤ σ 1 0 - 1) : vp_in x 6 := below_in (B 1 0).2 (B 1 0).1 h
/-- a metre of a street -/
def z_mt (σ : SG) (s y : Int32) : Prop := (0 ≤ s ∧ s ≤ σ 1 0 - 1) ∧ 0 ≤ y ∧ y ≤ σ 2 s.toNatClampNeg - 1
theorem mt_in {σ : SG} (B : IB σ) {s y : Int32} (h : z_mt σ s y) : ∃ a b : Nat, s = nI a ∧ y = nI b ∧ a < 6 ∧ b < 40 := by
  obtain ⟨a, ha, rfl, -⟩ := vin_ex (st_in B h.1)
  obtain ⟨b, hb, rfl, -⟩ := vin_ex (below_in (n := 40) (B 2 _).2 (B 2 _).1 h.2)
  exact ⟨a, b, rfl, rfl, ha, hb⟩
theorem at_eq (a b : Nat) : (40 : Int32) * nI a + nI b = nI (40 * a + b) := by rw [qn_lit40, qn_mul, qn_add]
section Q
variable {A : Nat → Nat} {m : Nat} {S : PT} {σ : SG} {μ : MU}
theorem r_mt (R : RM A m S σ μ) (B : IB σ) (x1 x2 : Int32) (post : Int32 → PT → Prop) : w_X9_isMetre m x1 x2 S post = post (bI (z_mt σ x1 x2)) S := r_isMetre R B x1 x2 post
noncomputable def q_surface (σ : SG) (x : Int32) : Int32 := iT (¬ (0 ≤ x ∧ x ≤ σ 1 0 - 1)) 1 (iT (¬ cN (fun i => ¬ σ 13 (40 * x.toNatClampNeg + i) = -1) 40 = 0) 2 0)
def u_surface (σ : SG) (x : Int32) : SG := up2 (up2 (up2 σ 49 0 0) 6 x.toNatClampNeg (z_today σ)) 7 x.toNatClampNeg (σ 40 0)
theorem r_surface (R : RM A m S σ μ) (B : IB σ) (x : Int32) (post : Int32 → PT → Prop)
    (hx : ∀ S', ¬ q_surface σ x = 0 → RM A m S' (up2 σ 49 0 (q_surface σ x)) μ → post 0 S')
    (h : ∀ S', q_surface σ x = 0 → RM A m S' (u_surface σ x) μ → post (z_today σ + 99) S') : w_X9_surface m x S post := by
  have e : w_X9_surface m x S post = w_X9_surface_b28 m x post S (some m) (q_surface σ x) := by
    unfold w_X9_surface q_surface
    by_cases hv : 0 ≤ x ∧ x ≤ σ 1 0 - 1
    · obtain ⟨a, ha, rfl, -⟩ := vin_ex (st_in B hv)
      have g2 : (nI a).toNatClampNeg = a := qn_nat (by omega)
      have g3 := q_le0 (n := cN (fun i => ¬ σ 13 (40 * a + i) = -1) 40) (by have := cN_le (fun i => ¬ σ 13 (40 * a + i) = -1) 40; omega)
      simp only [RM_all R, Option.some.injEq, exists_eq_left', true_and, and_true, isIn_eq, bI_0, Classical.not_not, bo_0, bo_1, bI_bo, forall_eq, r_isStreet R, hv, r_openIn R ha, g2, g3, br2, br2']
      ((try simp only [iT]) <;> (repeat' split) <;> first | rfl | grind | (exfalso; simp_all; done) | (simp_all; done) | (simp only [ile, ilt] at *; (repeat' split) <;> first | rfl | (exfalso; omega) | (exfalso; simp_all; done)))
    · simp only [RM_all R, Option.some.injEq, exists_eq_left', true_and, and_true, isIn_eq, bI_0, Classical.not_not, bo_0, bo_1, bI_bo, forall_eq, r_isStreet R, hv, br2, br2']
      ((try simp only [iT]) <;> (repeat' split) <;> first | rfl | grind | (exfalso; simp_all; done) | (simp_all; done) | (simp only [ile, ilt] at *; (repeat' split) <;> first | rfl | (exfalso; omega) | (exfalso; simp_all; done)))
  rw [e]
  generalize hq : q_surface σ x = t at *
  unfold w_X9_surface_b28
  simp only [RM_all R, Option.some.injEq, exists_eq_left', true_and, and_true, isIn_eq, bI_0, Classical.not_not, bo_0, bo_1, bI_bo, up2_s, up2_f, ne_eq, Nat.reduceEqDiff, not_false_eq_true]
  refine r_goes R _ (fun S1 R1 => ⟨fun ht => ?_, fun ht => hx S1 (by rw [bI_0] at ht; exact ht) R1⟩)
  rw [bI_0, Classical.not_not] at ht
  subst ht
  have hv : vp_in x 6 := st_in B (by have := (q1 (by decide) hq).1; rw [Classical.not_not] at this; exact this)
  simp only [RM_all R1, Option.some.injEq, exists_eq_left', true_and, and_true, isIn_eq, bI_0, Classical.not_not, bo_0, bo_1, bI_bo, up2_s, up2_f, ne_eq, Nat.reduceEqDiff, not_false_eq_true, hv, r_today R1]
  refine RM_uA R1 rfl (by decide) (fun S2 R2 => ?_)
  simp only [RM_all R2, Option.some.injEq, exists_eq_left', true_and, and_true, isIn_eq, bI_0, Classical.not_not, bo_0, bo_1, bI_bo, up2_s, up2_f, ne_eq, Nat.reduceEqDiff, not_false_eq_true, hv]
  refine RM_uA R2 rfl (by decide) (fun S3 R3 => ?_)
  simp only [RM_all R3, Option.some.injEq, exists_eq_left', true_and, and_true, isIn_eq, bI_0, Classical.not_not, bo_0, bo_1, bI_bo, up2_s, up2_f, ne_eq, Nat.reduceEqDiff, not_false_eq_true, hv, r_today R3]
  have := h S3 rfl R3
  simpa only [z_today, up2_f, ne_eq, Nat.reduceEqDiff, not_false_eq_true] using this
noncomputable def q_embargo (σ : SG) (x a b : Int32) : Int32 := iT (¬ (0 ≤ x ∧ x ≤ σ 1 0 - 1)) 1 (iT (¬ ((0 ≤ a ∧ a ≤ 999) ∧ a ≤ b ∧ b ≤ 999)) 2 0)
def u_embargo (σ : SG) (x a b : Int32) : SG := up2 (up2 (up2 σ 49 0 0) 8 x.toNatClampNeg a) 9 x.toNatClampNeg b
def z_caught (σ : SG) (x a b : Int32) (k : Nat) : Prop := σ 25 k = x ∧ σ 33 k = 1 ∧ z_has σ k a b
theorem r_embargo_l (R : RM A m S σ μ) {nW : Nat} (hn : σ 23 0 = nI nW) (hW : nW ≤ 24) (x a b : Int32) (post : Int32 → PT → Prop) : (∃ n, w_X9_embargo_l80 m x a b post n S 0 0) = post (nI (cN (z_caught σ x a b) nW)) S := by
  refine loop_ex (N := nW) (i0 := 0) (fun i => nI (cN (z_caught σ x a b) i)) (fun n c v => w_X9_embargo_l80 m x a b post n S c v) _ (Nat.zero_le _) rfl rfl (fun _ _ => rfl) (fun n => ?_) (fun n i _ hi => ?_)
  · show w_X9_embargo_l80 m x a b post (n + 1) S _ _ = _
    unfold w_X9_embargo_l80
    have c : nI nW ≤ nI nW := by rw [qn_le (by omega) (by omega)]; omega
    simp only [RM_all R, Option.some.injEq, exists_eq_left', true_and, and_true, isIn_eq, bI_0, Classical.not_not, bo_0, bo_1, bI_bo, forall_eq, hn, c]
    simp
  · show w_X9_embargo_l80 m x a b post (n + 1) S _ _ = w_X9_embargo_l80 m x a b post n S _ _
    conv => lhs; unfold w_X9_embargo_l80
    unfold w_X9_embargo_b128 w_X9_embargo_b129
    have c : ¬ nI nW ≤ nI i := by rw [qn_le (by omega) (by omega)]; omega
    have c1 : vp_in (nI i) 24 := vin_nI (by omega) (by decide)
    have c2 : (nI i).toNatClampNeg = i := qn_nat (by omega)
    simp only [RM_all R, Option.some.injEq, exists_eq_left', true_and, and_true, isIn_eq, bI_0, Classical.not_not, bo_0, bo_1, bI_bo, forall_eq, hn, c, c1, c2, r_hasDay R (show i < 24 by omega), br2, br2', cN_s, qn_s, q_add0]
    simp only [z_caught]
    ((try simp only [iT]) <;> (repeat' split) <;> first | rfl | grind | (exfalso; simp_all; done) | (simp_all; done) | (simp only [ile, ilt] at *; (repeat' split) <;> first | rfl | (exfalso; omega) | (exfalso; simp_all; done)))
theorem r_embargo (R : RM A m S σ μ) (B : IB σ) {nW : Nat} (hn : σ 23 0 = nI nW) (hW : nW ≤ 24) (x a b : Int32) (post : Int32 → PT → Prop)
    (hx : ∀ S', ¬ q_embargo σ x a b = 0 → RM A m S' (up2 σ 49 0 (q_embargo σ x a b)) μ → post 0 S')
    (h : ∀ S', q_embargo σ x a b = 0 → RM A m S' (u_embargo σ x a b) μ → post (nI (cN (z_caught (u_embargo σ x a b) x a b) nW)) S') : w_X9_embargo m x a b S post := by
  have e : w_X9_embargo m x a b S post = w_X9_embargo_b52 m x a b post S (some m) (q_embargo σ x a b) := by
    unfold w_X9_embargo w_X9_embargo_b26 w_X9_embargo_b27 q_embargo
    simp only [RM_all R, Option.some.injEq, exists_eq_left', true_and, and_true, isIn_eq, bI_0, Classical.not_not, bo_0, bo_1, bI_bo, forall_eq, r_isStreet R, br2, br2']
    ((try simp only [iT]) <;> (repeat' split) <;> first | rfl | grind | (exfalso; simp_all; done) | (simp_all; done) | (simp only [ile, ilt] at *; (repeat' split) <;> first | rfl | (exfalso; omega) | (exfalso; simp_all; done)))
  rw [e]
  generalize hq : q_embargo σ x a b = t at *
  unfold w_X9_embargo_b52
  simp only [RM_all R, Option.some.injEq, exists_eq_left', true_and, and_true, isIn_eq, bI_0, Classical.not_not, bo_0, bo_1, bI_bo, up2_s, up2_f, ne_eq, Nat.reduceEqDiff, not_false_eq_true]
  refine r_goes R _ (fun S1 R1 => ⟨fun ht => ?_, fun ht => hx S1 (by rw [bI_0] at ht; exact ht) R1⟩)
  rw [bI_0, Classical.not_not] at ht
  subst ht
  have hv : vp_in x 6 := st_in B (by have := (q1 (by decide) hq).1; rw [Classical.not_not] at this; exact this)
  simp only [RM_all R1, Option.some.injEq, exists_eq_left', true_and, and_true, isIn_eq, bI_0, Classical.not_not, bo_0, bo_1, bI_bo, up2_s, up2_f, ne_eq, Nat.reduceEqDiff, not_false_eq_true, hv]
  refine RM_uA R1 rfl (by decide) (fun S2 R2 => ?_)
  simp only [RM_all R2, Option.some.injEq, exists_eq_left', true_and, and_true, isIn_eq, bI_0, Classical.not_not, bo_0, bo_1, bI_bo, up2_s, up2_f, ne_eq, Nat.reduceEqDiff, not_false_eq_true, hv]
  refine RM_uA R2 rfl (by decide) (fun S3 R3 => ?_)
  rw [r_embargo_l R3 (nW := nW) (by simp only [up2_f, ne_eq, Nat.reduceEqDiff, not_false_eq_true]; exact hn) hW]
  exact h S3 rfl R3
noncomputable def q_lose (σ : SG) (x : Int32) : Int32 := iT (¬ (0 ≤ x ∧ x ≤ σ 14 0 - 1)) 1 0
def u_lose (σ : SG) (x : Int32) : SG := up2 (up2 σ 49 0 0) 20 x.toNatClampNeg 0
theorem bo_IB {σ : SG} (B : IB σ) (f i : Nat) (h0 : bl f = 0) (h1 : bh f = 1) : bo (σ f i) := by
  have := B f i
  rw [h0, h1] at this
  refine bo_01 ?_
  rw [ieq, ieq, I0, show (1 : Int32).toInt = 1 from by decide]
  omega
theorem r_lose (R : RM A m S σ μ) (B : IB σ) (x : Int32) (post : Int32 → PT → Prop)
    (hx : ∀ S', ¬ q_lose σ x = 0 → RM A m S' (up2 σ 49 0 (q_lose σ x)) μ → post 0 S')
    (h : ∀ S', q_lose σ x = 0 → RM A m S' (u_lose σ x) μ → post (σ 20 x.toNatClampNeg) S') : w_X9_lose m x S post := by
  have e : w_X9_lose m x S post = w_X9_lose_b14 m x post S (some m) (q_lose σ x) := by
    unfold w_X9_lose q_lose
    simp only [RM_all R, Option.some.injEq, exists_eq_left', true_and, and_true, isIn_eq, bI_0, Classical.not_not, bo_0, bo_1, bI_bo, forall_eq, r_isThing R, br2, br2']
    ((try simp only [iT]) <;> (repeat' split) <;> first | rfl | grind | (exfalso; simp_all; done) | (simp_all; done) | (simp only [ile, ilt] at *; (repeat' split) <;> first | rfl | (exfalso; omega) | (exfalso; simp_all; done)))
  rw [e]
  generalize hq : q_lose σ x = t at *
  unfold w_X9_lose_b14
  simp only [RM_all R, Option.some.injEq, exists_eq_left', true_and, and_true, isIn_eq, bI_0, Classical.not_not, bo_0, bo_1, bI_bo, up2_s, up2_f, ne_eq, Nat.reduceEqDiff, not_false_eq_true]
  refine r_goes R _ (fun S1 R1 => ⟨fun ht => ?_, fun ht => hx S1 (by rw [bI_0] at ht; exact ht) R1⟩)
  rw [bI_0, Classical.not_not] at ht
  subst ht
  have hv : vp_in x 30 := th_in B (by have := (q1 (by decide) hq).1; rw [Classical.not_not] at this; exact this)
  simp only [RM_all R1, Option.some.injEq, exists_eq_left', true_and, and_true, isIn_eq, bI_0, Classical.not_not, bo_0, bo_1, bI_bo, up2_s, up2_f, ne_eq, Nat.reduceEqDiff, not_false_eq_true, hv, bo_IB B 20 x.toNatClampNeg rfl rfl]
  exact RM_uA R1 rfl (by decide) (fun S2 R2 => h S2 rfl R2)
end Q
