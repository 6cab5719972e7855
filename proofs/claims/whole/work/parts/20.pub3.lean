/-! the calls on permits -/
section Q
variable {A : Nat → Nat} {m : Nat} {S : PT} {σ : SG} {μ : MU}
noncomputable def q_ask (σ : SG) (p s a b d k f n : Int32) : Int32 :=
  iT (¬ ((0 ≤ p ∧ p ≤ 4) ∧ z_mt σ s a ∧ z_mt σ s b)) 1
  (iT (¬ (¬ b < a ∧ (10 ≤ d ∧ d ≤ 300) ∧ (0 ≤ k ∧ k ≤ 3) ∧ 1 ≤ n ∧ n ≤ 60)) 2
  (iT (¬ (z_today σ + z_note k (σ 3 s.toNatClampNeg) ≤ f ∧ f ≤ 999)) 2 (iT (σ 23 0 = 24) 3 0)))
noncomputable def u_ask (σ : SG) (p s a b d k f n : Int32) : SG :=
  up2 (up2 (up2 (up2 (up2 (up2 (up2 (up2 (up2 (up2 (up2 (up2 σ 49 0 0) 24 (σ 23 0).toNatClampNeg p) 25 (σ 23 0).toNatClampNeg s) 26 (σ 23 0).toNatClampNeg a) 27 (σ 23 0).toNatClampNeg b) 28 (σ 23 0).toNatClampNeg d) 29 (σ 23 0).toNatClampNeg k) 30 (σ 23 0).toNatClampNeg f) 31 (σ 23 0).toNatClampNeg n) 32 (σ 23 0).toNatClampNeg (z_today σ)) 33 (σ 23 0).toNatClampNeg (iT (k = 3) 1 0)) 23 0 (σ 23 0 + 1)
theorem r_ask (R : RM A m S σ μ) (B : IB σ) (p s a b d k f n : Int32) (post : Int32 → PT → Prop)
    (hx : ∀ S', ¬ q_ask σ p s a b d k f n = 0 → RM A m S' (up2 σ 49 0 (q_ask σ p s a b d k f n)) μ → post 0 S')
    (h : ∀ S', q_ask σ p s a b d k f n = 0 → RM A m S' (u_ask σ p s a b d k f n) μ → post (σ 23 0 + 1 - 1) S') : w_X9_ask m p s a b d k f n S post := by
  have e : w_X9_ask m p s a b d k f n S post = w_X9_ask_b140 m p s a b d k f n post S (some m) (q_ask σ p s a b d k f n) := by
    unfold w_X9_ask w_X9_ask_b30 w_X9_ask_b31 w_X9_ask_b77 w_X9_ask_b78 w_X9_ask_b122 q_ask
    by_cases hv : z_mt σ s a
    · have g1 := st_in B hv.1
      simp only [RM_all R, Option.some.injEq, exists_eq_left', true_and, and_true, isIn_eq, bI_0, Classical.not_not, bo_0, bo_1, bI_bo, forall_eq, r_isPromoter, r_mt R B, r_today R, r_notice, g1, hv, br2, br2']
      ((try simp only [iT]) <;> (repeat' split) <;> first | rfl | grind | (exfalso; simp_all; done) | (simp_all; done) | (simp only [ile, ilt] at *; (repeat' split) <;> first | rfl | (exfalso; omega) | (exfalso; simp_all; done)))
    · simp only [RM_all R, Option.some.injEq, exists_eq_left', true_and, and_true, isIn_eq, bI_0, Classical.not_not, bo_0, bo_1, bI_bo, forall_eq, r_isPromoter, r_mt R B, r_today R, r_notice, hv, br2, br2']
      ((try simp only [iT]) <;> (repeat' split) <;> first | rfl | grind | (exfalso; simp_all; done) | (simp_all; done) | (simp only [ile, ilt] at *; (repeat' split) <;> first | rfl | (exfalso; omega) | (exfalso; simp_all; done)))
  rw [e]
  generalize hq : q_ask σ p s a b d k f n = t at *
  unfold w_X9_ask_b140
  simp only [RM_all R, Option.some.injEq, exists_eq_left', true_and, and_true, isIn_eq, bI_0, Classical.not_not, bo_0, bo_1, bI_bo, up2_s, up2_f, ne_eq, Nat.reduceEqDiff, not_false_eq_true]
  refine r_goes R _ (fun S1 R1 => ⟨fun ht => ?_, fun ht => hx S1 (by rw [bI_0] at ht; exact ht) R1⟩)
  rw [bI_0, Classical.not_not] at ht
  subst ht
  obtain ⟨h1, hq2⟩ := q1 (by decide) hq
  obtain ⟨h2, hq3⟩ := q1 (by decide) hq2
  obtain ⟨h3, hq4⟩ := q1 (by decide) hq3
  obtain ⟨h4, -⟩ := q1 (by decide) hq4
  have hv : vp_in (σ 23 0) 24 := by
    have := B 23 0
    simp only [bl, bh] at this
    rw [ieq, show (24 : Int32).toInt = 24 from by decide] at h4
    unfold vp_in Int32.toNatClampNeg
    rw [ilt, I0]; simp at this; omega
  simp only [RM_all R1, Option.some.injEq, exists_eq_left', true_and, and_true, isIn_eq, bI_0, Classical.not_not, bo_0, bo_1, bI_bo, up2_s, up2_f, ne_eq, Nat.reduceEqDiff, not_false_eq_true, hv]
  refine RM_uA R1 rfl (by decide) (fun S2 R2 => ?_)
  simp only [RM_all R2, Option.some.injEq, exists_eq_left', true_and, and_true, isIn_eq, bI_0, Classical.not_not, bo_0, bo_1, bI_bo, up2_s, up2_f, ne_eq, Nat.reduceEqDiff, not_false_eq_true, hv]
  refine RM_uA R2 rfl (by decide) (fun S3 R3 => ?_)
  simp only [RM_all R3, Option.some.injEq, exists_eq_left', true_and, and_true, isIn_eq, bI_0, Classical.not_not, bo_0, bo_1, bI_bo, up2_s, up2_f, ne_eq, Nat.reduceEqDiff, not_false_eq_true, hv]
  refine RM_uA R3 rfl (by decide) (fun S4 R4 => ?_)
  simp only [RM_all R4, Option.some.injEq, exists_eq_left', true_and, and_true, isIn_eq, bI_0, Classical.not_not, bo_0, bo_1, bI_bo, up2_s, up2_f, ne_eq, Nat.reduceEqDiff, not_false_eq_true, hv]
  refine RM_uA R4 rfl (by decide) (fun S5 R5 => ?_)
  simp only [RM_all R5, Option.some.injEq, exists_eq_left', true_and, and_true, isIn_eq, bI_0, Classical.not_not, bo_0, bo_1, bI_bo, up2_s, up2_f, ne_eq, Nat.reduceEqDiff, not_false_eq_true, hv]
  refine RM_uA R5 rfl (by decide) (fun S6 R6 => ?_)
  simp only [RM_all R6, Option.some.injEq, exists_eq_left', true_and, and_true, isIn_eq, bI_0, Classical.not_not, bo_0, bo_1, bI_bo, up2_s, up2_f, ne_eq, Nat.reduceEqDiff, not_false_eq_true, hv]
  refine RM_uA R6 rfl (by decide) (fun S7 R7 => ?_)
  simp only [RM_all R7, Option.some.injEq, exists_eq_left', true_and, and_true, isIn_eq, bI_0, Classical.not_not, bo_0, bo_1, bI_bo, up2_s, up2_f, ne_eq, Nat.reduceEqDiff, not_false_eq_true, hv]
  refine RM_uA R7 rfl (by decide) (fun S8 R8 => ?_)
  simp only [RM_all R8, Option.some.injEq, exists_eq_left', true_and, and_true, isIn_eq, bI_0, Classical.not_not, bo_0, bo_1, bI_bo, up2_s, up2_f, ne_eq, Nat.reduceEqDiff, not_false_eq_true, hv]
  refine RM_uA R8 rfl (by decide) (fun S9 R9 => ?_)
  simp only [RM_all R9, Option.some.injEq, exists_eq_left', true_and, and_true, isIn_eq, bI_0, Classical.not_not, bo_0, bo_1, bI_bo, up2_s, up2_f, ne_eq, Nat.reduceEqDiff, not_false_eq_true, hv, r_today R9]
  refine RM_uA R9 rfl (by decide) (fun S10 R10 => ?_)
  have et : ∀ τ : SG, (∀ i, τ 0 i = σ 0 i) → z_today τ = z_today σ := fun τ h => by unfold z_today; rw [h]
  rw [et _ (fun i => by simp only [up2_f, ne_eq, Nat.reduceEqDiff, not_false_eq_true])] at R10
  unfold w_X9_ask_b265
  simp only [RM_all R10, Option.some.injEq, exists_eq_left', true_and, and_true, isIn_eq, bI_0, Classical.not_not, bo_0, bo_1, bI_bo, up2_s, up2_f, ne_eq, Nat.reduceEqDiff, not_false_eq_true, hv]
  have hf : ∀ v : Int32, v = iT (k = 3) 1 0 → ∀ S', S' = sA S10 (A 33) (σ 23 0).toNatClampNeg v → gK S' m = 10 ∧ ∀ S8, S8 = sI S' 1023 m (gI S' 1023 m + 1) → post (gI S8 1023 m - 1) S8 := by
    intro v hv2
    refine RM_uA R10 rfl (by decide) (fun S11 R11 => ?_)
    simp only [RM_all R11, Option.some.injEq, exists_eq_left', true_and, and_true, isIn_eq, bI_0, Classical.not_not, bo_0, bo_1, bI_bo, up2_s, up2_f, ne_eq, Nat.reduceEqDiff, not_false_eq_true]
    refine RM_uI R11 23 rfl rfl (fun S12 R12 => ?_)
    simp only [RM_all R12, Option.some.injEq, exists_eq_left', true_and, and_true, isIn_eq, bI_0, Classical.not_not, bo_0, bo_1, bI_bo, up2_s, up2_f, ne_eq, Nat.reduceEqDiff, not_false_eq_true]
    exact h S12 rfl (by unfold u_ask; rw [hv2] at R12; exact R12)
  refine ⟨fun hk => ?_, fun hk => ?_⟩
  · exact hf 0 (by rw [iT_F hk])
  · exact hf 1 (by rw [iT_T hk])
/-- what a permit costs -/
noncomputable def z_cost (σ : SG) (j : Nat) : Int32 := iT (σ 29 j = 0) 60 (iT (σ 29 j = 1) 40 (iT (σ 29 j = 2) 20 0)) * (4 - σ 3 (σ 25 j).toNatClampNeg)
theorem five_in : vp_in 5 6 := vin_nI (k := 5) (by decide) (by decide)
theorem five_nat : (5 : Int32).toNatClampNeg = 5 := by decide
theorem r_grants (R : RM A m S σ μ) (B : IB σ) {j : Nat} (hj : j < 24) (c : Int32) {post : Int32 → PT → Prop}
    (h : ∀ S', RM A m S' (up2 (up2 σ 33 j 1) 34 j c) (z_pay μ (σ 24 j).toNatClampNeg 5 (z_cost σ j)) → post (z_cost σ j) S') : w_X9_grants m (nI j) c S post := by
  have g1 : vp_in (nI j) 24 := vin_nI hj (by decide)
  have g2 : (nI j).toNatClampNeg = j := qn_nat (by omega)
  have e1 : vp_in (σ 25 j) 6 := IB_vin B 25 j 6 (by decide) (by decide)
  have e2 : vp_in (σ 24 j) 6 := IB_vin B 24 j 6 (by decide) (by decide)
  have e : w_X9_grants m (nI j) c S post = w_X9_grants_b59 m (nI j) c post S (4 - σ 3 (σ 25 j).toNatClampNeg) (iT (σ 29 j = 0) 60 (iT (σ 29 j = 1) 40 (iT (σ 29 j = 2) 20 0))) := by
    unfold w_X9_grants
    simp only [RM_all R, Option.some.injEq, exists_eq_left', true_and, and_true, isIn_eq, bI_0, Classical.not_not, bo_0, bo_1, bI_bo, forall_eq, g1, g2, e1, br2, br2']
    ((try simp only [iT]) <;> (repeat' split) <;> first | rfl | grind | (exfalso; simp_all; done) | (simp_all; done) | (simp only [ile, ilt] at *; (repeat' split) <;> first | rfl | (exfalso; omega) | (exfalso; simp_all; done)))
  rw [e]
  unfold w_X9_grants_b59
  simp only [RM_all R, Option.some.injEq, exists_eq_left', true_and, and_true, isIn_eq, bI_0, Classical.not_not, bo_0, bo_1, bI_bo, up2_s, up2_f, ne_eq, Nat.reduceEqDiff, not_false_eq_true, g1, g2]
  refine RM_uA R rfl (by decide) (fun S2 R2 => ?_)
  simp only [RM_all R2, Option.some.injEq, exists_eq_left', true_and, and_true, isIn_eq, bI_0, Classical.not_not, bo_0, bo_1, bI_bo, up2_s, up2_f, ne_eq, Nat.reduceEqDiff, not_false_eq_true, g1, g2]
  refine RM_uA R2 rfl (by decide) (fun S3 R3 => ?_)
  simp only [RM_all R3, Option.some.injEq, exists_eq_left', true_and, and_true, isIn_eq, bI_0, Classical.not_not, bo_0, bo_1, bI_bo, up2_s, up2_f, ne_eq, Nat.reduceEqDiff, not_false_eq_true, g1, g2]
  exact r_pays R3 e2 five_in _ (fun S4 R4 => h S4 (by rw [five_nat] at R4; exact R4))
noncomputable def q_grant (σ : SG) (x c : Int32) (nW : Nat) : Int32 := iT (¬ (0 ≤ x ∧ x ≤ σ 23 0 - 1)) 1 (iT (¬ (0 ≤ c ∧ c ≤ 3)) 2 (iT (¬ σ 33 x.toNatClampNeg = 0 ∨ ¬ z_bars σ x.toNatClampNeg nW ≤ 0) 3 0))
noncomputable def u_grant (σ : SG) (x c : Int32) : SG := up2 (up2 (up2 σ 49 0 0) 33 x.toNatClampNeg 1) 34 x.toNatClampNeg c
theorem IB_49 {σ : SG} (B : IB σ) (t : Int32) : IB (up2 σ 49 0 t) := IB_up B 49 0 (Ilo t) (by have := Ihi t; simp only [bh]; omega)
theorem r_grant (R : RM A m S σ μ) (B : IB σ) {nW : Nat} (hn : σ 23 0 = nI nW) (hW : nW ≤ 24) (x c : Int32) (post : Int32 → PT → Prop)
    (hx : ∀ S', ¬ q_grant σ x c nW = 0 → RM A m S' (up2 σ 49 0 (q_grant σ x c nW)) μ → post 0 S')
    (h : ∀ S', q_grant σ x c nW = 0 → RM A m S' (u_grant σ x c) (z_pay μ (σ 24 x.toNatClampNeg).toNatClampNeg 5 (z_cost σ x.toNatClampNeg)) → post (z_cost σ x.toNatClampNeg) S') : w_X9_grant m x c S post := by
  have e : w_X9_grant m x c S post = w_X9_grant_b50 m x c post S (some m) (q_grant σ x c nW) := by
    unfold w_X9_grant w_X9_grant_b45 q_grant
    by_cases hv : 0 ≤ x ∧ x ≤ σ 23 0 - 1
    · obtain ⟨k, hk, rfl, hk2⟩ := vin_ex (wk_in B hv)
      have g1 : vp_in (nI k) 24 := vin_nI hk (by decide)
      have g2 : (nI k).toNatClampNeg = k := qn_nat hk2
      simp only [RM_all R, Option.some.injEq, exists_eq_left', true_and, and_true, isIn_eq, bI_0, Classical.not_not, bo_0, bo_1, bI_bo, forall_eq, r_areWorks R, r_barsOf R B hk hn hW, hv, g1, g2, br2, br2']
      ((try simp only [iT]) <;> (repeat' split) <;> first | rfl | grind | (exfalso; simp_all; done) | (simp_all; done) | (simp only [ile, ilt] at *; (repeat' split) <;> first | rfl | (exfalso; omega) | (exfalso; simp_all; done)))
    · simp only [RM_all R, Option.some.injEq, exists_eq_left', true_and, and_true, isIn_eq, bI_0, Classical.not_not, bo_0, bo_1, bI_bo, forall_eq, r_areWorks R, hv, br2, br2']
      ((try simp only [iT]) <;> (repeat' split) <;> first | rfl | grind | (exfalso; simp_all; done) | (simp_all; done) | (simp only [ile, ilt] at *; (repeat' split) <;> first | rfl | (exfalso; omega) | (exfalso; simp_all; done)))
  rw [e]
  generalize hq : q_grant σ x c nW = t at *
  unfold w_X9_grant_b50
  simp only [RM_all R, Option.some.injEq, exists_eq_left', true_and, and_true, isIn_eq, bI_0, Classical.not_not, bo_0, bo_1, bI_bo, up2_s, up2_f, ne_eq, Nat.reduceEqDiff, not_false_eq_true]
  refine r_goes R _ (fun S1 R1 => ⟨fun ht => ?_, fun ht => hx S1 (by rw [bI_0] at ht; exact ht) R1⟩)
  rw [bI_0, Classical.not_not] at ht
  subst ht
  obtain ⟨h1, -⟩ := q1 (by decide) hq
  rw [Classical.not_not] at h1
  obtain ⟨k, hk, rfl, hk2⟩ := vin_ex (wk_in B h1)
  have g2 : (nI k).toNatClampNeg = k := qn_nat hk2
  simp only [RM_all R1, Option.some.injEq, exists_eq_left', true_and, and_true, isIn_eq, bI_0, Classical.not_not, bo_0, bo_1, bI_bo, up2_s, up2_f, ne_eq, Nat.reduceEqDiff, not_false_eq_true]
  refine r_grants R1 (IB_49 B 0) hk c (fun S2 R2 => ?_)
  have h9 := h S2 rfl
  rw [g2] at h9
  unfold u_grant at h9
  rw [g2] at h9
  simp only [z_cost, up2_f, ne_eq, Nat.reduceEqDiff, not_false_eq_true] at R2 h9 ⊢
  exact h9 R2
noncomputable def q_refuse (σ : SG) (x : Int32) : Int32 := iT (¬ (0 ≤ x ∧ x ≤ σ 23 0 - 1)) 1 (iT (¬ σ 33 x.toNatClampNeg = 0 ∧ ¬ σ 33 x.toNatClampNeg = 1) 2 0)
def u_refuse (σ : SG) (x : Int32) : SG := up2 (up2 σ 49 0 0) 33 x.toNatClampNeg 2
theorem r_refuse (R : RM A m S σ μ) (B : IB σ) (x : Int32) (post : Int32 → PT → Prop)
    (hx : ∀ S', ¬ q_refuse σ x = 0 → RM A m S' (up2 σ 49 0 (q_refuse σ x)) μ → post 0 S')
    (h : ∀ S', q_refuse σ x = 0 → RM A m S' (u_refuse σ x) μ → post (σ 33 x.toNatClampNeg) S') : w_X9_refuse m x S post := by
  have e : w_X9_refuse m x S post = w_X9_refuse_b39 m x post S (some m) (q_refuse σ x) := by
    unfold w_X9_refuse w_X9_refuse_b38 q_refuse
    by_cases hv : 0 ≤ x ∧ x ≤ σ 23 0 - 1
    · have g1 := wk_in B hv
      simp only [RM_all R, Option.some.injEq, exists_eq_left', true_and, and_true, isIn_eq, bI_0, Classical.not_not, bo_0, bo_1, bI_bo, forall_eq, r_areWorks R, hv, g1, br2, br2']
      ((try simp only [iT]) <;> (repeat' split) <;> first | rfl | grind | (exfalso; simp_all; done) | (simp_all; done) | (simp only [ile, ilt] at *; (repeat' split) <;> first | rfl | (exfalso; omega) | (exfalso; simp_all; done)))
    · simp only [RM_all R, Option.some.injEq, exists_eq_left', true_and, and_true, isIn_eq, bI_0, Classical.not_not, bo_0, bo_1, bI_bo, forall_eq, r_areWorks R, hv, br2, br2']
      ((try simp only [iT]) <;> (repeat' split) <;> first | rfl | grind | (exfalso; simp_all; done) | (simp_all; done) | (simp only [ile, ilt] at *; (repeat' split) <;> first | rfl | (exfalso; omega) | (exfalso; simp_all; done)))
  rw [e]
  generalize hq : q_refuse σ x = t at *
  unfold w_X9_refuse_b39
  simp only [RM_all R, Option.some.injEq, exists_eq_left', true_and, and_true, isIn_eq, bI_0, Classical.not_not, bo_0, bo_1, bI_bo, up2_s, up2_f, ne_eq, Nat.reduceEqDiff, not_false_eq_true]
  refine r_goes R _ (fun S1 R1 => ⟨fun ht => ?_, fun ht => hx S1 (by rw [bI_0] at ht; exact ht) R1⟩)
  rw [bI_0, Classical.not_not] at ht
  subst ht
  have hv : vp_in x 24 := wk_in B (by have := (q1 (by decide) hq).1; rw [Classical.not_not] at this; exact this)
  simp only [RM_all R1, Option.some.injEq, exists_eq_left', true_and, and_true, isIn_eq, bI_0, Classical.not_not, bo_0, bo_1, bI_bo, up2_s, up2_f, ne_eq, Nat.reduceEqDiff, not_false_eq_true, hv]
  exact RM_uA R1 rfl (by decide) (fun S2 R2 => h S2 rfl R2)
noncomputable def q_vary (σ : SG) (x c : Int32) : Int32 := iT (¬ (0 ≤ x ∧ x ≤ σ 23 0 - 1)) 1 (iT (¬ (0 ≤ c ∧ c ≤ 3)) 2 (iT (¬ z_on σ x.toNatClampNeg) 3 0))
def u_vary (σ : SG) (x c : Int32) : SG := up2 (up2 (up2 σ 49 0 0) 34 x.toNatClampNeg c) 35 x.toNatClampNeg (σ 35 x.toNatClampNeg + 1)
theorem r_vary (R : RM A m S σ μ) (B : IB σ) (x c : Int32) (post : Int32 → PT → Prop)
    (hx : ∀ S', ¬ q_vary σ x c = 0 → RM A m S' (up2 σ 49 0 (q_vary σ x c)) μ → post 0 S')
    (h : ∀ S', q_vary σ x c = 0 → RM A m S' (u_vary σ x c) μ → post (σ 35 x.toNatClampNeg + 1) S') : w_X9_vary m x c S post := by
  have e : w_X9_vary m x c S post = w_X9_vary_b41 m x c post S (some m) (q_vary σ x c) := by
    unfold w_X9_vary q_vary
    by_cases hv : 0 ≤ x ∧ x ≤ σ 23 0 - 1
    · obtain ⟨k, hk, rfl, hk2⟩ := vin_ex (wk_in B hv)
      have g1 : vp_in (nI k) 24 := vin_nI hk (by decide)
      have g2 : (nI k).toNatClampNeg = k := qn_nat hk2
      simp only [RM_all R, Option.some.injEq, exists_eq_left', true_and, and_true, isIn_eq, bI_0, Classical.not_not, bo_0, bo_1, bI_bo, forall_eq, r_areWorks R, r_isOn R hk, hv, g1, g2, br2, br2']
      ((try simp only [iT]) <;> (repeat' split) <;> first | rfl | grind | (exfalso; simp_all; done) | (simp_all; done) | (simp only [ile, ilt] at *; (repeat' split) <;> first | rfl | (exfalso; omega) | (exfalso; simp_all; done)))
    · simp only [RM_all R, Option.some.injEq, exists_eq_left', true_and, and_true, isIn_eq, bI_0, Classical.not_not, bo_0, bo_1, bI_bo, forall_eq, r_areWorks R, hv, br2, br2']
      ((try simp only [iT]) <;> (repeat' split) <;> first | rfl | grind | (exfalso; simp_all; done) | (simp_all; done) | (simp only [ile, ilt] at *; (repeat' split) <;> first | rfl | (exfalso; omega) | (exfalso; simp_all; done)))
  rw [e]
  generalize hq : q_vary σ x c = t at *
  unfold w_X9_vary_b41
  simp only [RM_all R, Option.some.injEq, exists_eq_left', true_and, and_true, isIn_eq, bI_0, Classical.not_not, bo_0, bo_1, bI_bo, up2_s, up2_f, ne_eq, Nat.reduceEqDiff, not_false_eq_true]
  refine r_goes R _ (fun S1 R1 => ⟨fun ht => ?_, fun ht => hx S1 (by rw [bI_0] at ht; exact ht) R1⟩)
  rw [bI_0, Classical.not_not] at ht
  subst ht
  have hv : vp_in x 24 := wk_in B (by have := (q1 (by decide) hq).1; rw [Classical.not_not] at this; exact this)
  simp only [RM_all R1, Option.some.injEq, exists_eq_left', true_and, and_true, isIn_eq, bI_0, Classical.not_not, bo_0, bo_1, bI_bo, up2_s, up2_f, ne_eq, Nat.reduceEqDiff, not_false_eq_true, hv]
  refine RM_uA R1 rfl (by decide) (fun S2 R2 => ?_)
  simp only [RM_all R2, Option.some.injEq, exists_eq_left', true_and, and_true, isIn_eq, bI_0, Classical.not_not, bo_0, bo_1, bI_bo, up2_s, up2_f, ne_eq, Nat.reduceEqDiff, not_false_eq_true, hv]
  refine RM_uA R2 rfl (by decide) (fun S3 R3 => ?_)
  simp only [RM_all R3, Option.some.injEq, exists_eq_left', true_and, and_true, isIn_eq, bI_0, Classical.not_not, bo_0, bo_1, bI_bo, up2_s, up2_f, ne_eq, Nat.reduceEqDiff, not_false_eq_true, hv]
  exact h S3 rfl R3
noncomputable def q_exempt (σ : SG) (x : Int32) : Int32 := iT (¬ (0 ≤ x ∧ x ≤ σ 23 0 - 1)) 1 0
noncomputable def u_exempt (σ : SG) (x : Int32) : SG := up2 (up2 σ 49 0 0) 38 x.toNatClampNeg (iT (σ 38 x.toNatClampNeg = 0) 1 0)
theorem bo_iT {P : Prop} : bo (iT P 1 0) := by
  by_cases h : P
  · rw [iT_T h]; exact bo_1
  · rw [iT_F h]; exact bo_0
theorem r_exempt (R : RM A m S σ μ) (B : IB σ) (x : Int32) (post : Int32 → PT → Prop)
    (hx : ∀ S', ¬ q_exempt σ x = 0 → RM A m S' (up2 σ 49 0 (q_exempt σ x)) μ → post 0 S')
    (h : ∀ S', q_exempt σ x = 0 → RM A m S' (u_exempt σ x) μ → post (iT (σ 38 x.toNatClampNeg = 0) 1 0) S') : w_X9_exempt m x S post := by
  have e : w_X9_exempt m x S post = w_X9_exempt_b14 m x post S (some m) (q_exempt σ x) := by
    unfold w_X9_exempt q_exempt
    simp only [RM_all R, Option.some.injEq, exists_eq_left', true_and, and_true, isIn_eq, bI_0, Classical.not_not, bo_0, bo_1, bI_bo, forall_eq, r_areWorks R, br2, br2']
    ((try simp only [iT]) <;> (repeat' split) <;> first | rfl | grind | (exfalso; simp_all; done) | (simp_all; done) | (simp only [ile, ilt] at *; (repeat' split) <;> first | rfl | (exfalso; omega) | (exfalso; simp_all; done)))
  rw [e]
  generalize hq : q_exempt σ x = t at *
  unfold w_X9_exempt_b14
  simp only [RM_all R, Option.some.injEq, exists_eq_left', true_and, and_true, isIn_eq, bI_0, Classical.not_not, bo_0, bo_1, bI_bo, up2_s, up2_f, ne_eq, Nat.reduceEqDiff, not_false_eq_true]
  refine r_goes R _ (fun S1 R1 => ⟨fun ht => ?_, fun ht => hx S1 (by rw [bI_0] at ht; exact ht) R1⟩)
  rw [bI_0, Classical.not_not] at ht
  subst ht
  have hv : vp_in x 24 := wk_in B (by have := (q1 (by decide) hq).1; rw [Classical.not_not] at this; exact this)
  unfold w_X9_exempt_b41
  simp only [RM_all R1, Option.some.injEq, exists_eq_left', true_and, and_true, isIn_eq, bI_0, Classical.not_not, bo_0, bo_1, bI_bo, up2_s, up2_f, ne_eq, Nat.reduceEqDiff, not_false_eq_true, hv]
  refine ⟨fun hk => RM_uA R1 rfl (by decide) (fun S2 R2 => ?_), fun hk => RM_uA R1 rfl (by decide) (fun S2 R2 => ?_)⟩
  · simp only [RM_all R2, Option.some.injEq, exists_eq_left', true_and, and_true, isIn_eq, bI_0, Classical.not_not, bo_0, bo_1, bI_bo, up2_s, up2_f, ne_eq, Nat.reduceEqDiff, not_false_eq_true, hv]
    have h9 := h S2 rfl
    unfold u_exempt at h9
    rw [iT_F hk] at h9
    exact h9 R2
  · simp only [RM_all R2, Option.some.injEq, exists_eq_left', true_and, and_true, isIn_eq, bI_0, Classical.not_not, bo_0, bo_1, bI_bo, up2_s, up2_f, ne_eq, Nat.reduceEqDiff, not_false_eq_true, hv]
    have h9 := h S2 rfl
    unfold u_exempt at h9
    rw [iT_T hk] at h9
    exact h9 R2
noncomputable def q_agree (σ : SG) (x y : Int32) : Int32 := iT (¬ ((0 ≤ x ∧ x ≤ σ 23 0 - 1) ∧ 0 ≤ y ∧ y ≤ σ 23 0 - 1)) 1 (iT (x = y) 2 0)
noncomputable def u_agree (σ : SG) (x y : Int32) : SG := up2 (up2 (up2 σ 49 0 0) 39 (24 * x.toNatClampNeg + y.toNatClampNeg) (iT (σ 39 (24 * x.toNatClampNeg + y.toNatClampNeg) = 0) 1 0)) 39 (24 * y.toNatClampNeg + x.toNatClampNeg) (iT (σ 39 (24 * x.toNatClampNeg + y.toNatClampNeg) = 0) 1 0)
theorem at24 (a b : Nat) : (24 : Int32) * nI a + nI b = nI (24 * a + b) := by rw [qn_lit24, qn_mul, qn_add]
theorem r_agree (R : RM A m S σ μ) (B : IB σ) (x y : Int32) (post : Int32 → PT → Prop)
    (hx : ∀ S', ¬ q_agree σ x y = 0 → RM A m S' (up2 σ 49 0 (q_agree σ x y)) μ → post 0 S')
    (h : ∀ S', q_agree σ x y = 0 → RM A m S' (u_agree σ x y) μ → post (iT (σ 39 (24 * x.toNatClampNeg + y.toNatClampNeg) = 0) 1 0) S') : w_X9_agree m x y S post := by
  have e : w_X9_agree m x y S post = w_X9_agree_b31 m x y post S (some m) (q_agree σ x y) := by
    unfold w_X9_agree w_X9_agree_b17 q_agree
    simp only [RM_all R, Option.some.injEq, exists_eq_left', true_and, and_true, isIn_eq, bI_0, Classical.not_not, bo_0, bo_1, bI_bo, forall_eq, r_areWorks R, br2, br2']
    ((try simp only [iT]) <;> (repeat' split) <;> first | rfl | grind | (exfalso; simp_all; done) | (simp_all; done) | (simp only [ile, ilt] at *; (repeat' split) <;> first | rfl | (exfalso; omega) | (exfalso; simp_all; done)))
  rw [e]
  generalize hq : q_agree σ x y = t at *
  unfold w_X9_agree_b31
  simp only [RM_all R, Option.some.injEq, exists_eq_left', true_and, and_true, isIn_eq, bI_0, Classical.not_not, bo_0, bo_1, bI_bo, up2_s, up2_f, ne_eq, Nat.reduceEqDiff, not_false_eq_true]
  refine r_goes R _ (fun S1 R1 => ⟨fun ht => ?_, fun ht => hx S1 (by rw [bI_0] at ht; exact ht) R1⟩)
  rw [bI_0, Classical.not_not] at ht
  subst ht
  obtain ⟨h1, -⟩ := q1 (by decide) hq
  rw [Classical.not_not] at h1
  obtain ⟨a, ha, rfl, ha2⟩ := vin_ex (wk_in B h1.1)
  obtain ⟨b, hb, rfl, hb2⟩ := vin_ex (wk_in B h1.2)
  have c1 : vp_in (nI (24 * a + b)) 576 := vin_nI (by omega) (by decide)
  have c2 : (nI (24 * a + b)).toNatClampNeg = 24 * a + b := qn_nat (by omega)
  have c3 : vp_in (nI (24 * b + a)) 576 := vin_nI (by omega) (by decide)
  have c4 : (nI (24 * b + a)).toNatClampNeg = 24 * b + a := qn_nat (by omega)
  unfold w_X9_agree_b58
  simp only [RM_all R1, Option.some.injEq, exists_eq_left', true_and, and_true, isIn_eq, bI_0, Classical.not_not, bo_0, bo_1, bI_bo, up2_s, up2_f, ne_eq, Nat.reduceEqDiff, not_false_eq_true, at24, c1, c2]
  have h9 := h
  unfold u_agree at h9
  rw [qn_nat ha2, qn_nat hb2] at h9
  refine ⟨fun hk => RM_uA R1 rfl (by decide) (fun S2 R2 => ?_), fun hk => RM_uA R1 rfl (by decide) (fun S2 R2 => ?_)⟩
  · simp only [RM_all R2, Option.some.injEq, exists_eq_left', true_and, and_true, isIn_eq, bI_0, Classical.not_not, bo_0, bo_1, bI_bo, up2_s, up2_f, ne_eq, Nat.reduceEqDiff, not_false_eq_true, at24, c3, c4]
    rw [iT_F hk] at h9
    exact RM_uA R2 rfl (by decide) (fun S3 R3 => h9 S3 rfl R3)
  · simp only [RM_all R2, Option.some.injEq, exists_eq_left', true_and, and_true, isIn_eq, bI_0, Classical.not_not, bo_0, bo_1, bI_bo, up2_s, up2_f, ne_eq, Nat.reduceEqDiff, not_false_eq_true, at24, c3, c4]
    rw [iT_T hk] at h9
    exact RM_uA R2 rfl (by decide) (fun S3 R3 => h9 S3 rfl R3)
noncomputable def q_start (σ : SG) (x : Int32) : Int32 := iT (¬ (0 ≤ x ∧ x ≤ σ 23 0 - 1)) 1 (iT (¬ σ 33 x.toNatClampNeg = 1 ∨ ¬ (σ 30 x.toNatClampNeg ≤ z_today σ ∧ z_today σ ≤ z_last σ x.toNatClampNeg)) 2 0)
def u_start (σ : SG) (x : Int32) : SG := up2 (up2 σ 49 0 0) 33 x.toNatClampNeg 3
theorem r_start (R : RM A m S σ μ) (B : IB σ) (x : Int32) (post : Int32 → PT → Prop)
    (hx : ∀ S', ¬ q_start σ x = 0 → RM A m S' (up2 σ 49 0 (q_start σ x)) μ → post 0 S')
    (h : ∀ S', q_start σ x = 0 → RM A m S' (u_start σ x) μ → post (z_last σ x.toNatClampNeg) S') : w_X9_start m x S post := by
  have e : w_X9_start m x S post = w_X9_start_b51 m x post S (some m) (q_start σ x) := by
    unfold w_X9_start w_X9_start_b46 q_start
    by_cases hv : 0 ≤ x ∧ x ≤ σ 23 0 - 1
    · obtain ⟨k, hk, rfl, hk2⟩ := vin_ex (wk_in B hv)
      have g1 : vp_in (nI k) 24 := vin_nI hk (by decide)
      have g2 : (nI k).toNatClampNeg = k := qn_nat hk2
      simp only [RM_all R, Option.some.injEq, exists_eq_left', true_and, and_true, isIn_eq, bI_0, Classical.not_not, bo_0, bo_1, bI_bo, forall_eq, r_areWorks R, r_today R, r_lastDay R hk, hv, g1, g2, br2, br2']
      ((try simp only [iT]) <;> (repeat' split) <;> first | rfl | grind | (exfalso; simp_all; done) | (simp_all; done) | (simp only [ile, ilt] at *; (repeat' split) <;> first | rfl | (exfalso; omega) | (exfalso; simp_all; done)))
    · simp only [RM_all R, Option.some.injEq, exists_eq_left', true_and, and_true, isIn_eq, bI_0, Classical.not_not, bo_0, bo_1, bI_bo, forall_eq, r_areWorks R, hv, br2, br2']
      ((try simp only [iT]) <;> (repeat' split) <;> first | rfl | grind | (exfalso; simp_all; done) | (simp_all; done) | (simp only [ile, ilt] at *; (repeat' split) <;> first | rfl | (exfalso; omega) | (exfalso; simp_all; done)))
  rw [e]
  generalize hq : q_start σ x = t at *
  unfold w_X9_start_b51
  simp only [RM_all R, Option.some.injEq, exists_eq_left', true_and, and_true, isIn_eq, bI_0, Classical.not_not, bo_0, bo_1, bI_bo, up2_s, up2_f, ne_eq, Nat.reduceEqDiff, not_false_eq_true]
  refine r_goes R _ (fun S1 R1 => ⟨fun ht => ?_, fun ht => hx S1 (by rw [bI_0] at ht; exact ht) R1⟩)
  rw [bI_0, Classical.not_not] at ht
  subst ht
  obtain ⟨h1, -⟩ := q1 (by decide) hq
  rw [Classical.not_not] at h1
  obtain ⟨k, hk, rfl, hk2⟩ := vin_ex (wk_in B h1)
  have g1 : vp_in (nI k) 24 := vin_nI hk (by decide)
  have g2 : (nI k).toNatClampNeg = k := qn_nat hk2
  simp only [RM_all R1, Option.some.injEq, exists_eq_left', true_and, and_true, isIn_eq, bI_0, Classical.not_not, bo_0, bo_1, bI_bo, up2_s, up2_f, ne_eq, Nat.reduceEqDiff, not_false_eq_true, g1, g2]
  refine RM_uA R1 rfl (by decide) (fun S2 R2 => ?_)
  rw [r_lastDay R2 hk]
  have h9 := h S2 rfl
  unfold u_start at h9
  rw [g2] at h9
  have h8 := h9 R2
  simp only [z_last, up2_f, ne_eq, Nat.reduceEqDiff, not_false_eq_true] at h8 ⊢
  exact h8
end Q
