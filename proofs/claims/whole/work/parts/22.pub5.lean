/-! filling, plates, extending, stopping -/
section Q
variable {A : Nat → Nat} {m : Nat} {S : PT} {σ : SG} {μ : MU}
noncomputable def q_fill (σ : SG) (x y d : Int32) : Int32 := iT (¬ z_of σ x y) 1 (iT (¬ (0 ≤ d ∧ d ≤ 100)) 2 (iT (¬ σ 13 (z_at σ x.toNatClampNeg y) = x) 3 0))
def u_fill (σ : SG) (x y d : Int32) : SG :=
  up2 (up2 (up2 (up2 (up2 (up2 (up2 σ 49 0 0) 13 (z_at σ x.toNatClampNeg y) (-1)) 41 (σ 40 0).toNatClampNeg (nI (z_at σ x.toNatClampNeg y))) 42 (σ 40 0).toNatClampNeg x) 43 (σ 40 0).toNatClampNeg (z_today σ)) 44 (σ 40 0).toNatClampNeg d) 40 0 (σ 40 0 + 1)
theorem r_fill (R : RM A m S σ μ) (B : IB σ) {nF : Nat} (hn : σ 40 0 = nI nF) (hF : nF ≤ 1000) (x y d : Int32) (post : Int32 → PT → Prop)
    (hx : ∀ S', ¬ q_fill σ x y d = 0 → RM A m S' (up2 σ 49 0 (q_fill σ x y d)) μ → post 0 S')
    (h : ∀ S', q_fill σ x y d = 0 → RM A m S' (u_fill σ x y d) μ → post (nI (cN (fun k => u_fill σ x y d 41 k = nI (z_at σ x.toNatClampNeg y)) (nF + 1))) S') : w_X9_fill m x y d S post := by
  by_cases hv : z_of σ x y
  · obtain ⟨k, s, b, rfl, rfl, hk, hb, es, hs, ea⟩ := of_in B hv
    have g1 : vp_in (nI k) 24 := vin_nI hk (by decide)
    have g2 : (nI k).toNatClampNeg = k := qn_nat (by omega)
    have c1 : vp_in (nI (40 * s + b)) 240 := vin_nI (by omega) (by decide)
    have c2 : (nI (40 * s + b)).toNatClampNeg = 40 * s + b := qn_nat (by omega)
    have e : w_X9_fill m (nI k) (nI b) d S post = w_X9_fill_b70 m (nI k) (nI b) d post S (nI (40 * s + b)) (some m) (q_fill σ (nI k) (nI b) d) := by
      unfold w_X9_fill w_X9_fill_b28 q_fill
      simp only [RM_all R, Option.some.injEq, exists_eq_left', true_and, and_true, isIn_eq, bI_0, Classical.not_not, bo_0, bo_1, bI_bo, forall_eq, r_isOf R B, hv, g1, g2, es, at_eq, c1, c2, ea, br2, br2']
      ((try simp only [iT]) <;> (repeat' split) <;> first | rfl | grind | (exfalso; simp_all; done) | (simp_all; done) | (simp only [ile, ilt] at *; (repeat' split) <;> first | rfl | (exfalso; omega) | (exfalso; simp_all; done)))
    rw [e]
    have h9 := h
    unfold u_fill at h9
    rw [g2, ea] at h9
    generalize hq : q_fill σ (nI k) (nI b) d = t at *
    unfold w_X9_fill_b70
    simp only [RM_all R, Option.some.injEq, exists_eq_left', true_and, and_true, isIn_eq, bI_0, Classical.not_not, bo_0, bo_1, bI_bo, up2_s, up2_f, ne_eq, Nat.reduceEqDiff, not_false_eq_true]
    refine r_goes R _ (fun S1 R1 => ⟨fun ht => ?_, fun ht => hx S1 (by rw [bI_0] at ht; exact ht) R1⟩)
    rw [bI_0, Classical.not_not] at ht
    subst ht
    have f1 : vp_in (σ 40 0) 1024 := by rw [hn]; exact vin_nI (by omega) (by decide)
    simp only [RM_all R1, Option.some.injEq, exists_eq_left', true_and, and_true, isIn_eq, bI_0, Classical.not_not, bo_0, bo_1, bI_bo, up2_s, up2_f, ne_eq, Nat.reduceEqDiff, not_false_eq_true, c1, c2]
    refine RM_uA R1 rfl (by decide) (fun S2 R2 => ?_)
    simp only [RM_all R2, Option.some.injEq, exists_eq_left', true_and, and_true, isIn_eq, bI_0, Classical.not_not, bo_0, bo_1, bI_bo, up2_s, up2_f, ne_eq, Nat.reduceEqDiff, not_false_eq_true, f1]
    refine RM_uA R2 rfl (by decide) (fun S3 R3 => ?_)
    simp only [RM_all R3, Option.some.injEq, exists_eq_left', true_and, and_true, isIn_eq, bI_0, Classical.not_not, bo_0, bo_1, bI_bo, up2_s, up2_f, ne_eq, Nat.reduceEqDiff, not_false_eq_true, f1]
    refine RM_uA R3 rfl (by decide) (fun S4 R4 => ?_)
    simp only [RM_all R4, Option.some.injEq, exists_eq_left', true_and, and_true, isIn_eq, bI_0, Classical.not_not, bo_0, bo_1, bI_bo, up2_s, up2_f, ne_eq, Nat.reduceEqDiff, not_false_eq_true, f1, r_today R4]
    refine RM_uA R4 rfl (by decide) (fun S5 R5 => ?_)
    have et : ∀ τ : SG, (∀ i, τ 0 i = σ 0 i) → z_today τ = z_today σ := fun τ h => by unfold z_today; rw [h]
    rw [et _ (fun i => by simp only [up2_f, ne_eq, Nat.reduceEqDiff, not_false_eq_true])] at R5
    simp only [RM_all R5, Option.some.injEq, exists_eq_left', true_and, and_true, isIn_eq, bI_0, Classical.not_not, bo_0, bo_1, bI_bo, up2_s, up2_f, ne_eq, Nat.reduceEqDiff, not_false_eq_true, f1]
    refine RM_uA R5 rfl (by decide) (fun S6 R6 => ?_)
    simp only [RM_all R6, Option.some.injEq, exists_eq_left', true_and, and_true, isIn_eq, bI_0, Classical.not_not, bo_0, bo_1, bI_bo, up2_s, up2_f, ne_eq, Nat.reduceEqDiff, not_false_eq_true]
    refine RM_uI R6 40 rfl rfl (fun S7 R7 => ?_)
    rw [r_fillsOf R7 (nF := nF + 1) (by rw [up2_s, hn, qn_s]) (by omega)]
    exact h9 S7 rfl R7
  · have hq : q_fill σ x y d = 1 := iT_T hv
    have e : w_X9_fill m x y d S post = w_X9_fill_b70 m x y d post S 0 (some m) 1 := by
      unfold w_X9_fill w_X9_fill_b28
      simp only [RM_all R, Option.some.injEq, exists_eq_left', true_and, and_true, isIn_eq, bI_0, Classical.not_not, bo_0, bo_1, bI_bo, forall_eq, r_isOf R B, hv, br2, br2']
      ((try simp only [iT]) <;> (repeat' split) <;> first | rfl | grind | (exfalso; simp_all; done) | (simp_all; done) | (simp only [ile, ilt] at *; (repeat' split) <;> first | rfl | (exfalso; omega) | (exfalso; simp_all; done)))
    rw [hq] at hx
    rw [e]
    unfold w_X9_fill_b70
    simp only [RM_all R, Option.some.injEq, exists_eq_left', true_and, and_true, isIn_eq, bI_0, Classical.not_not, bo_0, bo_1, bI_bo, up2_s, up2_f, ne_eq, Nat.reduceEqDiff, not_false_eq_true]
    refine r_goes R _ (fun S1 R1 => ⟨fun ht => ?_, fun ht => hx S1 (by decide) R1⟩)
    rw [bI_0, Classical.not_not] at ht
    exact absurd ht (by decide)
noncomputable def q_plate (σ : SG) (x : Int32) : Int32 := iT (¬ (0 ≤ x ∧ x ≤ σ 23 0 - 1)) 1 (iT (¬ σ 33 x.toNatClampNeg = 3) 2 0)
noncomputable def u_plate (σ : SG) (x : Int32) : SG := up2 (up2 σ 49 0 0) 37 x.toNatClampNeg (iT (σ 37 x.toNatClampNeg = 0) 1 0)
theorem r_plate (R : RM A m S σ μ) (B : IB σ) (x : Int32) (post : Int32 → PT → Prop)
    (hx : ∀ S', ¬ q_plate σ x = 0 → RM A m S' (up2 σ 49 0 (q_plate σ x)) μ → post 0 S')
    (h : ∀ S', q_plate σ x = 0 → RM A m S' (u_plate σ x) μ → post (iT (σ 37 x.toNatClampNeg = 0) 1 0) S') : w_X9_plate m x S post := by
  have e : w_X9_plate m x S post = w_X9_plate_b30 m x post S (some m) (q_plate σ x) := by
    unfold w_X9_plate q_plate
    by_cases hv : 0 ≤ x ∧ x ≤ σ 23 0 - 1
    · have g1 := wk_in B hv
      simp only [RM_all R, Option.some.injEq, exists_eq_left', true_and, and_true, isIn_eq, bI_0, Classical.not_not, bo_0, bo_1, bI_bo, forall_eq, r_areWorks R, hv, g1, br2, br2']
      ((try simp only [iT]) <;> (repeat' split) <;> first | rfl | grind | (exfalso; simp_all; done) | (simp_all; done) | (simp only [ile, ilt] at *; (repeat' split) <;> first | rfl | (exfalso; omega) | (exfalso; simp_all; done)))
    · simp only [RM_all R, Option.some.injEq, exists_eq_left', true_and, and_true, isIn_eq, bI_0, Classical.not_not, bo_0, bo_1, bI_bo, forall_eq, r_areWorks R, hv, br2, br2']
      ((try simp only [iT]) <;> (repeat' split) <;> first | rfl | grind | (exfalso; simp_all; done) | (simp_all; done) | (simp only [ile, ilt] at *; (repeat' split) <;> first | rfl | (exfalso; omega) | (exfalso; simp_all; done)))
  rw [e]
  generalize hq : q_plate σ x = t at *
  unfold w_X9_plate_b30
  simp only [RM_all R, Option.some.injEq, exists_eq_left', true_and, and_true, isIn_eq, bI_0, Classical.not_not, bo_0, bo_1, bI_bo, up2_s, up2_f, ne_eq, Nat.reduceEqDiff, not_false_eq_true]
  refine r_goes R _ (fun S1 R1 => ⟨fun ht => ?_, fun ht => hx S1 (by rw [bI_0] at ht; exact ht) R1⟩)
  rw [bI_0, Classical.not_not] at ht
  subst ht
  have hv : vp_in x 24 := wk_in B (by have := (q1 (by decide) hq).1; rw [Classical.not_not] at this; exact this)
  unfold w_X9_plate_b57
  simp only [RM_all R1, Option.some.injEq, exists_eq_left', true_and, and_true, isIn_eq, bI_0, Classical.not_not, bo_0, bo_1, bI_bo, up2_s, up2_f, ne_eq, Nat.reduceEqDiff, not_false_eq_true, hv]
  refine ⟨fun hk => RM_uA R1 rfl (by decide) (fun S2 R2 => ?_), fun hk => RM_uA R1 rfl (by decide) (fun S2 R2 => ?_)⟩
  · simp only [RM_all R2, Option.some.injEq, exists_eq_left', true_and, and_true, isIn_eq, bI_0, Classical.not_not, bo_0, bo_1, bI_bo, up2_s, up2_f, ne_eq, Nat.reduceEqDiff, not_false_eq_true, hv]
    have h9 := h S2 rfl
    unfold u_plate at h9
    rw [iT_F hk] at h9
    exact h9 R2
  · simp only [RM_all R2, Option.some.injEq, exists_eq_left', true_and, and_true, isIn_eq, bI_0, Classical.not_not, bo_0, bo_1, bI_bo, up2_s, up2_f, ne_eq, Nat.reduceEqDiff, not_false_eq_true, hv]
    have h9 := h S2 rfl
    unfold u_plate at h9
    rw [iT_T hk] at h9
    exact h9 R2
/-- two days more -/
def z_two (σ : SG) (k : Nat) : SG := up2 σ 31 k (σ 31 k + 2)
noncomputable def q_extend (σ : SG) (x : Int32) (nW : Nat) : Int32 := iT (¬ (0 ≤ x ∧ x ≤ σ 23 0 - 1)) 1 (iT (¬ σ 33 x.toNatClampNeg = 3 ∨ σ 36 x.toNatClampNeg ≤ 0) 2 (iT (z_met (z_two σ x.toNatClampNeg) x.toNatClampNeg nW) 2 0))
def u_extend (σ : SG) (x : Int32) : SG := up2 (up2 (z_two σ x.toNatClampNeg) 49 0 0) 36 x.toNatClampNeg (σ 36 x.toNatClampNeg - 1)
theorem r_extend_t (R : RM A m S σ μ) (x : Int32) {t : Int32} (ht : ¬ t = 0) (post : Int32 → PT → Prop)
    (hx : ∀ S', RM A m S' (up2 σ 49 0 t) μ → post 0 S') : w_X9_extend_b106 m x post S (some m) t := by
  unfold w_X9_extend_b106
  simp only [RM_all R, Option.some.injEq, exists_eq_left', true_and, and_true, isIn_eq, bI_0, Classical.not_not, bo_0, bo_1, bI_bo, up2_s, up2_f, ne_eq, Nat.reduceEqDiff, not_false_eq_true]
  exact r_goes R _ (fun S1 R1 => ⟨fun h => absurd (by rw [bI_0, Classical.not_not] at h; exact h) ht, fun _ => hx S1 R1⟩)
theorem r_extend (R : RM A m S σ μ) (B : IB σ) {nW : Nat} (hn : σ 23 0 = nI nW) (hW : nW ≤ 24) (x : Int32) (post : Int32 → PT → Prop)
    (hx : ∀ S', ¬ q_extend σ x nW = 0 → RM A m S' (up2 σ 49 0 (q_extend σ x nW)) μ → post 0 S')
    (h : ∀ S', q_extend σ x nW = 0 → RM A m S' (u_extend σ x) μ → post (z_last σ x.toNatClampNeg + 2) S') : w_X9_extend m x S post := by
  by_cases hv : 0 ≤ x ∧ x ≤ σ 23 0 - 1
  · obtain ⟨k, hk, rfl, hk2⟩ := vin_ex (wk_in B hv)
    have g1 : vp_in (nI k) 24 := vin_nI hk (by decide)
    have g2 : (nI k).toNatClampNeg = k := qn_nat (by omega)
    unfold q_extend at hx h
    rw [g2, iT_F (show ¬ ¬ _ from fun n => n hv)] at hx h
    unfold w_X9_extend
    simp only [RM_all R, Option.some.injEq, exists_eq_left', true_and, and_true, isIn_eq, bI_0, Classical.not_not, bo_0, bo_1, bI_bo, forall_eq, r_areWorks R, hv, and_self, g1, g2]
    rw [bI_T trivial]
    unfold w_X9_extend_b33
    have no : (¬ σ 33 k = 3 ∨ σ 36 k ≤ 0) → w_X9_extend_b34 m (nI k) post S 1 0 := by
      intro hc
      unfold w_X9_extend_b34 w_X9_extend_b49 w_X9_extend_b65 w_X9_extend_b66 w_X9_extend_b83 w_X9_extend_b101
      rw [iT_T hc] at hx
      have f := r_extend_t R (nI k) (t := 2) (by decide) post (fun S' R' => hx S' (by decide) R')
      exact ⟨fun _ => ⟨fun _ => ⟨fun _ => ⟨fun _ => ⟨fun _ => f, fun n => absurd rfl n⟩, fun n => absurd n (by decide)⟩, fun n => absurd rfl n⟩, fun n => absurd rfl n⟩, fun n => absurd rfl n⟩
    refine ⟨fun n => absurd trivial n, fun _ => ⟨fun n => no (Or.inl n), fun h3 => ⟨fun n => no (Or.inr n), fun h6 => ?_⟩⟩⟩
    have hc : ¬ (¬ σ 33 k = 3 ∨ σ 36 k ≤ 0) := fun n => n.elim (fun n => n h3) (fun n => h6 n)
    rw [iT_F hc] at hx h
    unfold w_X9_extend_b34 w_X9_extend_b49 w_X9_extend_b65 w_X9_extend_b66 w_X9_extend_b83 w_X9_extend_b101
    refine ⟨fun n => absurd n (by decide), fun _ => ?_⟩
    simp only [RM_all R, Option.some.injEq, exists_eq_left', true_and, and_true, isIn_eq, bI_0, Classical.not_not, bo_0, bo_1, bI_bo, up2_s, up2_f, ne_eq, Nat.reduceEqDiff, not_false_eq_true, g1, g2]
    refine RM_uA R rfl (by decide) (fun S1 R1 => ?_)
    have B1 : IB (z_two σ k) := IB_31 B k _
    have hm : ∀ p, w_X9_meetsOn m (nI k) S1 p = p (bI (z_met (z_two σ k) k nW)) S1 := fun p => r_meetsOn R1 B1 hk (by simp only [up2_f, ne_eq, Nat.reduceEqDiff, not_false_eq_true]; exact hn) hW p
    refine ⟨fun n => absurd n (by decide), fun _ => ?_⟩
    simp only [RM_all R1, Option.some.injEq, exists_eq_left', true_and, and_true, isIn_eq, bI_0, Classical.not_not, bo_0, bo_1, bI_bo, up2_s, up2_f, ne_eq, Nat.reduceEqDiff, not_false_eq_true, hm]
    refine ⟨fun hmt => ?_, fun hmt => ?_⟩
    · rw [iT_F hmt] at h
      refine ⟨fun _ => ⟨fun _ => ⟨fun n => absurd n (by decide), fun _ => ⟨fun _ => ?_, fun n => absurd trivial n⟩⟩, fun n => absurd n (by decide)⟩, fun n => absurd trivial n⟩
      unfold w_X9_extend_b106
      simp only [RM_all R1, Option.some.injEq, exists_eq_left', true_and, and_true, isIn_eq, bI_0, Classical.not_not, bo_0, bo_1, bI_bo, up2_s, up2_f, ne_eq, Nat.reduceEqDiff, not_false_eq_true]
      refine r_goes R1 _ (fun S2 R2 => ⟨fun ht => ?_, fun ht => absurd rfl (by rw [bI_0] at ht; exact ht)⟩)
      simp only [RM_all R2, Option.some.injEq, exists_eq_left', true_and, and_true, isIn_eq, bI_0, Classical.not_not, bo_0, bo_1, bI_bo, up2_s, up2_f, ne_eq, Nat.reduceEqDiff, not_false_eq_true, g1, g2]
      refine RM_uA R2 rfl (by decide) (fun S3 R3 => ?_)
      rw [r_lastDay R3 hk]
      have h9 := h S3 rfl
      unfold u_extend z_two at h9
      rw [g2] at h9
      have h8 := h9 R3
      simp only [z_last, up2_s, up2_f, ne_eq, Nat.reduceEqDiff, not_false_eq_true] at h8 ⊢
      rw [show σ 30 k + (σ 31 k + 2) - 1 = σ 30 k + σ 31 k - 1 + 2 by rw [ieq]; simp only [tadd, tsub]; omega]
      exact h8
    · rw [iT_T hmt] at hx
      refine ⟨fun n => absurd n (by decide), fun _ => ?_⟩
      simp only [RM_all R1, Option.some.injEq, exists_eq_left', true_and, and_true, isIn_eq, bI_0, Classical.not_not, bo_0, bo_1, bI_bo, up2_s, up2_f, ne_eq, Nat.reduceEqDiff, not_false_eq_true, g1, g2]
      refine RM_uA R1 rfl (by decide) (fun S2 R2 => ?_)
      rw [show σ 31 k + 2 - 2 = σ 31 k by rw [ieq]; simp only [tadd, tsub]; have a1 := Ilo (σ 31 k); have a2 := Ihi (σ 31 k); rw [show (2 : Int32).toInt = 2 from by decide]; omega, up2_id] at R2
      have f := r_extend_t R2 (nI k) (t := 2) (by decide) post (fun S' R' => hx S' (by decide) R')
      exact ⟨fun _ => ⟨fun n => absurd n (by decide), fun _ => ⟨fun n => absurd n (by decide), fun _ => f⟩⟩, fun n => absurd n (by decide)⟩
  · have hq : q_extend σ x nW = 1 := iT_T hv
    rw [hq] at hx
    unfold w_X9_extend
    simp only [RM_all R, Option.some.injEq, exists_eq_left', true_and, and_true, isIn_eq, bI_0, Classical.not_not, bo_0, bo_1, bI_bo, forall_eq, r_areWorks R, hv, and_self]
    rw [bI_F (fun h => h)]
    unfold w_X9_extend_b33 w_X9_extend_b34 w_X9_extend_b49 w_X9_extend_b65 w_X9_extend_b66 w_X9_extend_b83 w_X9_extend_b101
    have f := r_extend_t R x (t := 1) (by decide) post (fun S' R' => hx S' (by decide) R')
    exact ⟨fun _ => ⟨fun _ => ⟨fun _ => ⟨fun _ => ⟨fun n => absurd rfl n, fun _ => f⟩, fun n => absurd rfl n⟩, fun n => absurd rfl n⟩, fun n => absurd rfl n⟩, fun n => n.elim⟩
noncomputable def q_stop (σ : SG) (x : Int32) : Int32 := iT (¬ (0 ≤ x ∧ x ≤ σ 23 0 - 1)) 1 (iT (¬ σ 33 x.toNatClampNeg = 3 ∨ ¬ z_opens σ x = 0) 2 0)
def u_stop (σ : SG) (x : Int32) : SG := up2 (up2 (up2 σ 49 0 0) 33 x.toNatClampNeg 4) 37 x.toNatClampNeg 0
theorem r_stop (R : RM A m S σ μ) (B : IB σ) (x : Int32) (post : Int32 → PT → Prop)
    (hx : ∀ S', ¬ q_stop σ x = 0 → RM A m S' (up2 σ 49 0 (q_stop σ x)) μ → post 0 S')
    (h : ∀ S', q_stop σ x = 0 → RM A m S' (u_stop σ x) μ → post (z_end σ x.toNatClampNeg - z_last σ x.toNatClampNeg) S') : w_X9_stop m x S post := by
  have e : w_X9_stop m x S post = w_X9_stop_b38 m x post S (some m) (q_stop σ x) := by
    unfold w_X9_stop w_X9_stop_b33 q_stop
    have g3 : (nI (z_opens σ x) ≤ 0) = (z_opens σ x = 0) := q_le0 (by have := opens_le σ x; omega)
    by_cases hv : 0 ≤ x ∧ x ≤ σ 23 0 - 1
    · have g1 := wk_in B hv
      simp only [RM_all R, Option.some.injEq, exists_eq_left', true_and, and_true, isIn_eq, bI_0, Classical.not_not, bo_0, bo_1, bI_bo, forall_eq, r_areWorks R, r_openOf R, hv, g1, g3, br2, br2']
      ((try simp only [iT]) <;> (repeat' split) <;> first | rfl | grind | (exfalso; simp_all; done) | (simp_all; done) | (simp only [ile, ilt] at *; (repeat' split) <;> first | rfl | (exfalso; omega) | (exfalso; simp_all; done)))
    · simp only [RM_all R, Option.some.injEq, exists_eq_left', true_and, and_true, isIn_eq, bI_0, Classical.not_not, bo_0, bo_1, bI_bo, forall_eq, r_areWorks R, hv, br2, br2']
      ((try simp only [iT]) <;> (repeat' split) <;> first | rfl | grind | (exfalso; simp_all; done) | (simp_all; done) | (simp only [ile, ilt] at *; (repeat' split) <;> first | rfl | (exfalso; omega) | (exfalso; simp_all; done)))
  rw [e]
  generalize hq : q_stop σ x = t at *
  unfold w_X9_stop_b38
  simp only [RM_all R, Option.some.injEq, exists_eq_left', true_and, and_true, isIn_eq, bI_0, Classical.not_not, bo_0, bo_1, bI_bo, up2_s, up2_f, ne_eq, Nat.reduceEqDiff, not_false_eq_true]
  refine r_goes R _ (fun S1 R1 => ⟨fun ht => ?_, fun ht => hx S1 (by rw [bI_0] at ht; exact ht) R1⟩)
  rw [bI_0, Classical.not_not] at ht
  subst ht
  obtain ⟨h1, -⟩ := q1 (by decide) hq
  rw [Classical.not_not] at h1
  obtain ⟨k, hk, rfl, hk2⟩ := vin_ex (wk_in B h1)
  have g1 : vp_in (nI k) 24 := vin_nI hk (by decide)
  have g2 : (nI k).toNatClampNeg = k := qn_nat hk2
  simp only [RM_all R1, Option.some.injEq, exists_eq_left', true_and, and_true, isIn_eq, bI_0, Classical.not_not, bo_0, bo_1, bI_bo, up2_s, up2_f, ne_eq, Nat.reduceEqDiff, not_false_eq_true, r_lastOf R1 hk, r_lastDay R1 hk, g1, g2]
  refine RM_uA R1 rfl (by decide) (fun S2 R2 => ?_)
  simp only [RM_all R2, Option.some.injEq, exists_eq_left', true_and, and_true, isIn_eq, bI_0, Classical.not_not, bo_0, bo_1, bI_bo, up2_s, up2_f, ne_eq, Nat.reduceEqDiff, not_false_eq_true, g1, g2]
  refine RM_uA R2 rfl (by decide) (fun S3 R3 => ?_)
  have h9 := h S3 rfl
  unfold u_stop at h9
  rw [g2] at h9
  have h8 := h9 R3
  simp only [z_end, z_last, z_today, up2_f, ne_eq, Nat.reduceEqDiff, not_false_eq_true] at h8 ⊢
  exact h8
end Q
