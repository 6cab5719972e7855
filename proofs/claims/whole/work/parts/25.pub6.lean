/-! defects, cores, what is asked -/
def z_q (x y : Int32) : Int32 := 40 * x + y
theorem iT_nT {α : Sort _} {a b : α} : iT (¬ True) a b = b := iT_F (fun n => n trivial)
theorem asks_in {x : Int32} (h : x = -1 ∨ ∃ w : Nat, w < 24 ∧ x = nI w) (hx : ¬ x = -1) : ∃ w : Nat, w < 24 ∧ x = nI w := h.resolve_left hx
theorem liab_in {σ : SG} (B : IB σ) (s : Nat) (q d : Int32) (nF : Nat) : z_liab σ s q d nF = -1 ∨ ∃ w : Nat, w < 24 ∧ z_liab σ s q d nF = nI w := by
  unfold z_liab z_by
  refine iT_ind (fun y => y = -1 ∨ ∃ w : Nat, w < 24 ∧ y = nI w) (fun _ => Or.inl rfl) (fun _ => iT_ind (fun y => y = -1 ∨ ∃ w : Nat, w < 24 ∧ y = nI w) (fun _ => Or.inl rfl) (fun _ => Or.inr ?_))
  obtain ⟨w, e, h1, -⟩ := IB_nI B 42 (laN (z_deep σ q d) nF).toNatClampNeg rfl
  have h1 : (w : Int) ≤ 23 := h1
  exact ⟨w, by omega, e⟩
noncomputable def z_first (P : Nat → Prop) : Nat → Nat → Int32
  | 0, _ => -1
  | d + 1, i => iT (P i) (nI i) (z_first P d (i + 1))
noncomputable def z_srch (P : Nat → Prop) : Nat → Int32
  | 0 => 0
  | n + 1 => z_srch P n ||| iT (P n) (1 <<< (nI n &&& 31)) 0
theorem z_srch_s (P : Nat → Prop) (n : Nat) : z_srch P (n + 1) = z_srch P n ||| iT (P n) (1 <<< (nI n &&& 31)) 0 := rfl
section Q
variable {A : Nat → Nat} {m : Nat} {S : PT} {σ : SG} {μ : MU}
noncomputable def q_asks (σ : SG) (x y d : Int32) : Int32 := iT (¬ z_mt σ x y) 1 (iT (¬ (0 ≤ d ∧ d ≤ 300)) 2 0)
theorem r_asks (R : RM A m S σ μ) (B : IB σ) (x y d : Int32) {post : Int32 → PT → Prop}
    (h : ∀ S', RM A m S' (up2 σ 49 0 (q_asks σ x y d)) μ → post (bI (q_asks σ x y d = 0)) S') : w_X9_asksMetre m x y d S post := by
  have e : w_X9_asksMetre m x y d S post = w_X9_asksMetre_b30 m x y d post S (some m) (q_asks σ x y d) := by
    unfold w_X9_asksMetre q_asks
    simp only [RM_all R, Option.some.injEq, exists_eq_left', true_and, and_true, isIn_eq, bI_0, Classical.not_not, bo_0, bo_1, bI_bo, forall_eq, r_mt R B, br2, br2']
    ((try simp only [iT]) <;> (repeat' split) <;> first | rfl | grind | (exfalso; simp_all; done) | (simp_all; done) | (simp only [ile, ilt] at *; (repeat' split) <;> first | rfl | (exfalso; omega) | (exfalso; simp_all; done)))
  rw [e]
  unfold w_X9_asksMetre_b30
  simp only [RM_all R, Option.some.injEq, exists_eq_left', true_and, and_true, isIn_eq, bI_0, Classical.not_not, bo_0, bo_1, bI_bo, up2_s, up2_f, ne_eq, Nat.reduceEqDiff, not_false_eq_true]
  exact r_goes R _ h
theorem z_liab_49 (σ : SG) (t : Int32) (s : Nat) (q d : Int32) (nF : Nat) : z_liab (up2 σ 49 0 t) s q d nF = z_liab σ s q d nF := by
  have e : z_deep (up2 σ 49 0 t) q d = z_deep σ q d := by funext k; simp only [z_deep, up2_f, ne_eq, Nat.reduceEqDiff, not_false_eq_true]
  simp only [z_liab, e, z_by, z_old, z_today, up2_f, ne_eq, Nat.reduceEqDiff, not_false_eq_true]
theorem r_liab (R : RM A m S σ μ) (B : IB σ) {nF : Nat} (hn : σ 40 0 = nI nF) (hF : nF ≤ 1000) (x y d : Int32) (post : Int32 → PT → Prop)
    (hx : ∀ S', ¬ q_asks σ x y d = 0 → RM A m S' (up2 σ 49 0 (q_asks σ x y d)) μ → post 0 S')
    (h : ∀ S', q_asks σ x y d = 0 → RM A m S' (up2 σ 49 0 0) μ → post (z_liab σ x.toNatClampNeg (z_q x y) d nF) S') :
    w_X9_asksMetre m x y d S (fun r3 S2 => (r3 = 0 → post 0 S2) ∧ (¬ r3 = 0 → gK S2 m = 10 ∧ w_X9_liableFor m x y d S2 (fun r7 S6 => post r7 S6))) := by
  refine r_asks R B x y d (fun S1 R1 => ?_)
  generalize hq : q_asks σ x y d = t at *
  rw [bI_0]
  refine ⟨fun ht => hx S1 ht R1, fun ht => ?_⟩
  rw [Classical.not_not] at ht
  subst ht
  obtain ⟨h1, -⟩ := q1 (by decide) hq
  rw [Classical.not_not] at h1
  obtain ⟨a, b, rfl, rfl, ha, hb⟩ := mt_in B h1
  refine ⟨RM_K R1, ?_⟩
  rw [r_liableFor R1 (IB_49 B 0) ha (by simp only [up2_f, ne_eq, Nat.reduceEqDiff, not_false_eq_true]; exact hn) (by omega), z_liab_49]
  have := h S1 rfl R1
  rw [qn_nat (by omega)] at this
  exact this
theorem r_liable (R : RM A m S σ μ) (B : IB σ) {nF : Nat} (hn : σ 40 0 = nI nF) (hF : nF ≤ 1000) (x y d : Int32) (post : Int32 → PT → Prop)
    (hx : ∀ S', ¬ q_asks σ x y d = 0 → RM A m S' (up2 σ 49 0 (q_asks σ x y d)) μ → post 0 S')
    (h : ∀ S', q_asks σ x y d = 0 → RM A m S' (up2 σ 49 0 0) μ → post (z_liab σ x.toNatClampNeg (z_q x y) d nF) S') : w_X9_liable m x y d S post := by
  unfold w_X9_liable w_X9_liable_b21
  exact ⟨RM_K R, r_liab R B hn hF x y d post hx h⟩
theorem r_liableAnew (R : RM A m S σ μ) (B : IB σ) {nF : Nat} (hn : σ 40 0 = nI nF) (hF : nF ≤ 1000) (x y d : Int32) (post : Int32 → PT → Prop)
    (hx : ∀ S', ¬ q_asks σ x y d = 0 → RM A m S' (up2 σ 49 0 (q_asks σ x y d)) μ → post 0 S')
    (h : ∀ S', q_asks σ x y d = 0 → RM A m S' (up2 σ 49 0 0) μ → post (z_liab σ x.toNatClampNeg (z_q x y) d nF) S') : w_X9_liableAnew m x y d S post := by
  unfold w_X9_liableAnew w_X9_liableAnew_b21
  exact ⟨RM_K R, r_liab R B hn hF x y d post hx h⟩
/-- who is liable, and pays -/
noncomputable def u_defect (σ : SG) (w : Int32) : SG := iT (w = -1) (up2 σ 49 0 0) (up2 (up2 σ 49 0 0) 46 (σ 24 w.toNatClampNeg).toNatClampNeg (σ 46 (σ 24 w.toNatClampNeg).toNatClampNeg + 1))
noncomputable def m_defect (σ : SG) (μ : MU) (w : Int32) : MU := iT (w = -1) μ (z_pay μ (σ 24 w.toNatClampNeg).toNatClampNeg 5 300)
theorem r_defect (R : RM A m S σ μ) (B : IB σ) {nF : Nat} (hn : σ 40 0 = nI nF) (hF : nF ≤ 1000) (x y d : Int32) (post : Int32 → PT → Prop)
    (hx : ∀ S', ¬ q_asks σ x y d = 0 → RM A m S' (up2 σ 49 0 (q_asks σ x y d)) μ → post 0 S')
    (h : ∀ S', q_asks σ x y d = 0 → RM A m S' (u_defect σ (z_liab σ x.toNatClampNeg (z_q x y) d nF)) (m_defect σ μ (z_liab σ x.toNatClampNeg (z_q x y) d nF)) → post (z_liab σ x.toNatClampNeg (z_q x y) d nF) S') : w_X9_defect m x y d S post := by
  unfold w_X9_defect w_X9_defect_b58
  refine ⟨RM_K R, r_asks R B x y d (fun S1 R1 => ?_)⟩
  generalize hq : q_asks σ x y d = t at *
  rw [bI_0, Classical.not_not]
  refine ⟨fun ht => ?_, fun ht => hx S1 ht R1⟩
  subst ht
  obtain ⟨h1, -⟩ := q1 (by decide) hq
  rw [Classical.not_not] at h1
  obtain ⟨a, b, rfl, rfl, ha, hb⟩ := mt_in B h1
  refine ⟨RM_K R1, ?_⟩
  rw [r_liableFor R1 (IB_49 B 0) ha (by simp only [up2_f, ne_eq, Nat.reduceEqDiff, not_false_eq_true]; exact hn) (by omega), z_liab_49]
  rw [qn_nat (show a < 2147483648 by omega)] at h
  have hl := liab_in B a (40 * nI a + nI b) d nF
  change ∀ S', 0 = 0 → RM A m S' (u_defect σ (z_liab σ a (40 * nI a + nI b) d nF)) (m_defect σ μ (z_liab σ a (40 * nI a + nI b) d nF)) → post (z_liab σ a (40 * nI a + nI b) d nF) S' at h
  generalize z_liab σ a (40 * nI a + nI b) d nF = w at *
  unfold u_defect m_defect at h
  refine ⟨fun hw => ?_, fun hw => ?_⟩
  · rw [iT_T hw, iT_T hw] at h
    exact h S1 rfl R1
  · rw [iT_F hw, iT_F hw] at h
    obtain ⟨k, hk, rfl⟩ := asks_in hl hw
    have g1 : vp_in (nI k) 24 := vin_nI hk (by decide)
    have g2 : (nI k).toNatClampNeg = k := qn_nat (by omega)
    have e6 : vp_in (σ 24 k) 6 := IB_vin B 24 k 6 (by decide) (by decide)
    have e5 : vp_in (σ 24 k) 5 := IB_vin B 24 k 5 (by decide) (by decide)
    rw [g2] at h
    simp only [RM_all R1, Option.some.injEq, exists_eq_left', true_and, and_true, isIn_eq, bI_0, Classical.not_not, bo_0, bo_1, bI_bo, up2_s, up2_f, ne_eq, Nat.reduceEqDiff, not_false_eq_true, g1, g2]
    refine r_pays R1 e6 five_in 300 (fun S2 R2 => ?_)
    rw [five_nat] at R2
    simp only [RM_all R2, Option.some.injEq, exists_eq_left', true_and, and_true, isIn_eq, bI_0, Classical.not_not, bo_0, bo_1, bI_bo, up2_s, up2_f, ne_eq, Nat.reduceEqDiff, not_false_eq_true, g1, g2, e5]
    exact RM_uA R2 rfl (by decide) (fun S3 R3 => h S3 rfl R3)
noncomputable def z_lat (σ : SG) (x y : Int32) (nF : Nat) : Int32 := laN (fun k => σ 41 k = z_q x y) nF
noncomputable def q_core (σ : SG) (x y : Int32) (nF : Nat) : Int32 := iT (¬ z_mt σ x y) 1 (iT (z_lat σ x y nF = -1 ∨ ¬ σ 45 (z_lat σ x y nF).toNatClampNeg = 0) 2 0)
noncomputable def z_pr (σ : SG) (f : Nat) : Nat := (σ 24 (σ 42 f).toNatClampNeg).toNatClampNeg
noncomputable def u_core (σ : SG) (f : Nat) : SG := up2 (up2 (up2 (up2 σ 49 0 0) 45 f 1) 47 (z_pr σ f) (σ 47 (z_pr σ f) + 1)) 46 (z_pr σ f) (σ 46 (z_pr σ f) + iT (80 ≤ σ 44 f) 0 1)
theorem r_core (R : RM A m S σ μ) (B : IB σ) {nF : Nat} (hn : σ 40 0 = nI nF) (hF : nF ≤ 1000) (x y : Int32) (post : Int32 → PT → Prop)
    (hx : ∀ S', ¬ q_core σ x y nF = 0 → RM A m S' (up2 σ 49 0 (q_core σ x y nF)) μ → post 0 S')
    (h : ∀ S', q_core σ x y nF = 0 → RM A m S' (u_core σ (z_lat σ x y nF).toNatClampNeg) μ → post (σ 44 (z_lat σ x y nF).toNatClampNeg) S') : w_X9_core m x y S post := by
  by_cases hv : z_mt σ x y
  · have hl := laN_in (fun k => σ 41 k = z_q x y) nF
    have hlv : ¬ z_lat σ x y nF = -1 → vp_in (z_lat σ x y nF) 1024 := fun hne => by
      rcases hl with hl | ⟨k, hk, -, hl⟩
      · exact absurd hl hne
      · unfold z_lat; rw [hl]; exact vin_nI (by omega) (by decide)
    have e : w_X9_core m x y S post = w_X9_core_b57 m x y post S (z_lat σ x y nF) (some m) (q_core σ x y nF) := by
      unfold w_X9_core w_X9_core_b25 w_X9_core_b52 q_core
      have el : laN (fun k => σ 41 k = 40 * x + y) nF = z_lat σ x y nF := rfl
      simp only [RM_all R, Option.some.injEq, exists_eq_left', true_and, and_true, isIn_eq, bI_0, Classical.not_not, bo_0, bo_1, bI_bo, forall_eq, r_mt R B, hv, r_latest R hn (show nF ≤ 1024 by omega), el, br2, br2']
      generalize z_lat σ x y nF = f at *
      by_cases hf : f = -1
      · simp only [iT_nT, iT_T hf, iT_T (P := f = -1 ∨ ¬ σ 45 f.toNatClampNeg = 0) (Or.inl hf)]
      · have hin := hlv hf
        by_cases h45 : σ 45 f.toNatClampNeg = 0
        · simp only [iT_nT, iT_F hf, iT_T h45, iT_F (P := f = -1 ∨ ¬ σ 45 f.toNatClampNeg = 0) (fun n => n.elim hf (fun n => n h45)), hin, true_and]
        · simp only [iT_nT, iT_F hf, iT_F h45, iT_T (P := f = -1 ∨ ¬ σ 45 f.toNatClampNeg = 0) (Or.inr h45), hin, true_and]
    rw [e]
    generalize hq : q_core σ x y nF = t at *
    unfold w_X9_core_b57
    simp only [RM_all R, Option.some.injEq, exists_eq_left', true_and, and_true, isIn_eq, bI_0, Classical.not_not, bo_0, bo_1, bI_bo, up2_s, up2_f, ne_eq, Nat.reduceEqDiff, not_false_eq_true]
    refine r_goes R _ (fun S1 R1 => ⟨fun ht => ?_, fun ht => hx S1 (by rw [bI_0] at ht; exact ht) R1⟩)
    rw [bI_0, Classical.not_not] at ht
    subst ht
    obtain ⟨-, hq2⟩ := q1 (by decide) hq
    obtain ⟨h2, -⟩ := q1 (by decide) hq2
    have hne : ¬ z_lat σ x y nF = -1 := fun n => h2 (Or.inl n)
    obtain ⟨f, hf, ef, hf2⟩ := vin_ex (hlv hne)
    rw [ef] at h ⊢
    have g1 : vp_in (nI f) 1024 := vin_nI hf (by decide)
    have g2 : (nI f).toNatClampNeg = f := qn_nat hf2
    have e4 : vp_in (σ 42 f) 24 := IB_vin B 42 f 24 (by decide) (by decide)
    have e5 : vp_in (σ 24 (σ 42 f).toNatClampNeg) 5 := IB_vin B 24 _ 5 (by decide) (by decide)
    rw [g2] at h
    unfold u_core z_pr at h
    simp only [RM_all R1, Option.some.injEq, exists_eq_left', true_and, and_true, isIn_eq, bI_0, Classical.not_not, bo_0, bo_1, bI_bo, up2_s, up2_f, ne_eq, Nat.reduceEqDiff, not_false_eq_true, g1, g2]
    refine RM_uA R1 rfl (by decide) (fun S2 R2 => ?_)
    simp only [RM_all R2, Option.some.injEq, exists_eq_left', true_and, and_true, isIn_eq, bI_0, Classical.not_not, bo_0, bo_1, bI_bo, up2_s, up2_f, ne_eq, Nat.reduceEqDiff, not_false_eq_true, g1, g2, e4, e5]
    refine RM_uA R2 rfl (by decide) (fun S3 R3 => ?_)
    have b : ∀ v : Int32, v = iT (80 ≤ σ 44 f) 0 1 → w_X9_core_b123 m x y post S3 (nI f) (some (A 46)) (σ 24 (σ 42 f).toNatClampNeg) (σ 46 (σ 24 (σ 42 f).toNatClampNeg).toNatClampNeg) v := by
      intro v hv2
      unfold w_X9_core_b123
      simp only [RM_all R3, Option.some.injEq, exists_eq_left', true_and, and_true, isIn_eq, bI_0, Classical.not_not, bo_0, bo_1, bI_bo, up2_s, up2_f, ne_eq, Nat.reduceEqDiff, not_false_eq_true, e5]
      refine RM_uA R3 rfl (by decide) (fun S4 R4 => ?_)
      simp only [RM_all R4, Option.some.injEq, exists_eq_left', true_and, and_true, isIn_eq, bI_0, Classical.not_not, bo_0, bo_1, bI_bo, up2_s, up2_f, ne_eq, Nat.reduceEqDiff, not_false_eq_true, g1, g2]
      rw [hv2] at R4
      exact h S4 rfl R4
    simp only [RM_all R3, Option.some.injEq, exists_eq_left', true_and, and_true, isIn_eq, bI_0, Classical.not_not, bo_0, bo_1, bI_bo, up2_s, up2_f, ne_eq, Nat.reduceEqDiff, not_false_eq_true, g1, g2, e5]
    exact ⟨fun h80 => b 0 (by rw [iT_T h80]), fun h80 => b 1 (by rw [iT_F h80])⟩
  · have hq : q_core σ x y nF = 1 := iT_T hv
    have e : w_X9_core m x y S post = w_X9_core_b57 m x y post S (-1) (some m) 1 := by
      unfold w_X9_core w_X9_core_b25 w_X9_core_b52
      simp only [RM_all R, Option.some.injEq, exists_eq_left', true_and, and_true, isIn_eq, bI_0, Classical.not_not, bo_0, bo_1, bI_bo, forall_eq, r_mt R B, hv, br2, br2']
      ((try simp only [iT]) <;> (repeat' split) <;> first | rfl | grind | (exfalso; simp_all; done) | (simp_all; done) | (simp only [ile, ilt] at *; (repeat' split) <;> first | rfl | (exfalso; omega) | (exfalso; simp_all; done)))
    rw [hq] at hx
    rw [e]
    unfold w_X9_core_b57
    simp only [RM_all R, Option.some.injEq, exists_eq_left', true_and, and_true, isIn_eq, bI_0, Classical.not_not, bo_0, bo_1, bI_bo, up2_s, up2_f, ne_eq, Nat.reduceEqDiff, not_false_eq_true]
    refine r_goes R _ (fun S1 R1 => ⟨fun ht => ?_, fun ht => hx S1 (by decide) R1⟩)
    rw [bI_0, Classical.not_not] at ht
    exact absurd ht (by decide)
end Q
