/-! the rest of what is asked -/
theorem iT_tt {α : Sort _} {a b : α} : iT True a b = a := iT_T trivial
theorem iT_ff {α : Sort _} {a b : α} : iT False a b = b := iT_F (fun n => n)
section Q
variable {A : Nat → Nat} {m : Nat} {S : PT} {σ : SG} {μ : MU}
noncomputable def q_wk (σ : SG) (x : Int32) : Int32 := iT (¬ (0 ≤ x ∧ x ≤ σ 23 0 - 1)) 1 0
theorem z_met_49 (σ : SG) (t : Int32) (j n : Nat) : z_met (up2 σ 49 0 t) j n = z_met σ j n := by
  simp only [z_met, z_on, z_meet, z_may, z_has, z_end, z_last, z_today, z_near, up2_f, ne_eq, Nat.reduceEqDiff, not_false_eq_true]
theorem z_bars_49 (σ : SG) (t : Int32) (j n : Nat) : z_bars (up2 σ 49 0 t) j n = z_bars σ j n := by
  simp only [z_bars, z_met_49, z_has, z_end, z_last, z_today, up2_f, ne_eq, Nat.reduceEqDiff, not_false_eq_true]
theorem z_meet_49 (σ : SG) (t : Int32) (j k : Nat) : z_meet (up2 σ 49 0 t) j k = z_meet σ j k := by
  simp only [z_on, z_meet, z_may, z_has, z_end, z_last, z_today, z_near, up2_f, ne_eq, Nat.reduceEqDiff, not_false_eq_true]
theorem r_bars (R : RM A m S σ μ) (B : IB σ) {nW : Nat} (hn : σ 23 0 = nI nW) (hW : nW ≤ 24) (x : Int32) (post : Int32 → PT → Prop)
    (hx : ∀ S', ¬ q_wk σ x = 0 → RM A m S' (up2 σ 49 0 (q_wk σ x)) μ → post 0 S')
    (h : ∀ S', q_wk σ x = 0 → RM A m S' (up2 σ 49 0 0) μ → post (z_bars σ x.toNatClampNeg nW) S') : w_X9_bars m x S post := by
  have e : w_X9_bars m x S post = w_X9_bars_b14 m x post S (some m) (q_wk σ x) := by
    unfold w_X9_bars q_wk
    simp only [RM_all R, Option.some.injEq, exists_eq_left', true_and, and_true, isIn_eq, bI_0, Classical.not_not, bo_0, bo_1, bI_bo, forall_eq, r_areWorks R, br2, br2']
    ((try simp only [iT]) <;> (repeat' split) <;> first | rfl | grind | (exfalso; simp_all; done) | (simp_all; done) | (simp only [ile, ilt] at *; (repeat' split) <;> first | rfl | (exfalso; omega) | (exfalso; simp_all; done)))
  rw [e]
  generalize hq : q_wk σ x = t at *
  unfold w_X9_bars_b14 w_X9_bars_b29
  simp only [RM_all R, Option.some.injEq, exists_eq_left', true_and, and_true, isIn_eq, bI_0, Classical.not_not, bo_0, bo_1, bI_bo, up2_s, up2_f, ne_eq, Nat.reduceEqDiff, not_false_eq_true]
  refine r_goes R _ (fun S1 R1 => ⟨fun ht => hx S1 (by rw [bI_0] at ht; exact ht) R1, fun ht => ?_⟩)
  rw [bI_0, Classical.not_not] at ht
  subst ht
  obtain ⟨h1, -⟩ := q1 (by decide) hq
  rw [Classical.not_not] at h1
  obtain ⟨k, hk, rfl, hk2⟩ := vin_ex (wk_in B h1)
  have g2 : (nI k).toNatClampNeg = k := qn_nat hk2
  have h9 := h S1 rfl R1
  rw [g2] at h9
  refine ⟨RM_K R1, ?_⟩
  rw [r_barsOf R1 (IB_49 B 0) hk (by simp only [up2_f, ne_eq, Nat.reduceEqDiff, not_false_eq_true]; exact hn) hW, z_bars_49]
  exact h9
noncomputable def q_meets (σ : SG) (x f : Int32) : Int32 := iT (¬ (0 ≤ x ∧ x ≤ σ 23 0 - 1)) 1 (iT (¬ 0 ≤ f) 2 0)
noncomputable def z_meets (σ : SG) (k : Nat) (f : Int32) (nW : Nat) : Int32 := z_first (z_meet σ k) (nW - f.toNatClampNeg) f.toNatClampNeg
theorem r_meets_l (R : RM A m S σ μ) (B : IB σ) {j nW : Nat} (hj : j < 24) (hn : σ 23 0 = nI nW) (hW : nW ≤ 24) (f : Int32) (post : Int32 → PT → Prop) : ∀ (d i : Nat), i + d = nW →
    w_X9_meets_l32 m (nI j) f post (d + 1) S (nI i) = post (z_first (z_meet σ j) d i) S := by
  intro d
  induction d with
  | zero =>
    intro i hi
    have e : i = nW := by omega
    subst e
    unfold w_X9_meets_l32
    have c : nI i ≤ nI i := by rw [qn_le (by omega) (by omega)]; omega
    simp only [RM_all R, Option.some.injEq, exists_eq_left', true_and, and_true, isIn_eq, bI_0, Classical.not_not, bo_0, bo_1, bI_bo, forall_eq, hn, c]
    simp [z_first]
  | succ d ih =>
    intro i hi
    unfold w_X9_meets_l32
    have c : ¬ nI nW ≤ nI i := by rw [qn_le (by omega) (by omega)]; omega
    simp only [RM_all R, Option.some.injEq, exists_eq_left', true_and, and_true, isIn_eq, bI_0, Classical.not_not, bo_0, bo_1, bI_bo, forall_eq, hn, c, qn_s, r_doMeet R B hj (show i < 24 by omega), ih (i + 1) (by omega), br2']
    simp only [z_first]
    by_cases hm : z_meet σ j i
    · simp [hm, iT_tt, iT_ff]
    · simp [hm, iT_tt, iT_ff]
theorem r_meets (R : RM A m S σ μ) (B : IB σ) {nW : Nat} (hn : σ 23 0 = nI nW) (hW : nW ≤ 24) (x f : Int32) (post : Int32 → PT → Prop)
    (hx : ∀ S', ¬ q_meets σ x f = 0 → RM A m S' (up2 σ 49 0 (q_meets σ x f)) μ → post 0 S')
    (h : ∀ S', q_meets σ x f = 0 → RM A m S' (up2 σ 49 0 0) μ → post (z_meets σ x.toNatClampNeg f nW) S') : w_X9_meets m x f S post := by
  have e : w_X9_meets m x f S post = w_X9_meets_b22 m x f post S (some m) (q_meets σ x f) := by
    unfold w_X9_meets q_meets
    simp only [RM_all R, Option.some.injEq, exists_eq_left', true_and, and_true, isIn_eq, bI_0, Classical.not_not, bo_0, bo_1, bI_bo, forall_eq, r_areWorks R, br2, br2']
    ((try simp only [iT]) <;> (repeat' split) <;> first | rfl | grind | (exfalso; simp_all; done) | (simp_all; done) | (simp only [ile, ilt] at *; (repeat' split) <;> first | rfl | (exfalso; omega) | (exfalso; simp_all; done)))
  rw [e]
  generalize hq : q_meets σ x f = t at *
  unfold w_X9_meets_b22
  simp only [RM_all R, Option.some.injEq, exists_eq_left', true_and, and_true, isIn_eq, bI_0, Classical.not_not, bo_0, bo_1, bI_bo, up2_s, up2_f, ne_eq, Nat.reduceEqDiff, not_false_eq_true]
  refine r_goes R _ (fun S1 R1 => ⟨fun ht => ?_, fun ht => hx S1 (by rw [bI_0] at ht; exact ht) R1⟩)
  rw [bI_0, Classical.not_not] at ht
  subst ht
  obtain ⟨h1, hq2⟩ := q1 (by decide) hq
  obtain ⟨h2, -⟩ := q1 (by decide) hq2
  rw [Classical.not_not] at h1 h2
  obtain ⟨k, hk, rfl, hk2⟩ := vin_ex (wk_in B h1)
  have g2 : (nI k).toNatClampNeg = k := qn_nat hk2
  have h9 := h S1 rfl R1
  rw [g2] at h9
  have hn1 : (up2 σ 49 0 0 : SG) 23 0 = nI nW := by simp only [up2_f, ne_eq, Nat.reduceEqDiff, not_false_eq_true]; exact hn
  rw [ile, I0] at h2
  have hf2 := Ihi f
  obtain ⟨i, hi, rfl, hi2⟩ := ex_nI (x := f) (n := f.toInt.toNat + 1) (by rw [ilt, I0]; omega) (by omega)
  have g3 : (nI i).toNatClampNeg = i := qn_nat hi2
  unfold z_meets at h9
  rw [g3] at h9
  by_cases hle : i ≤ nW
  · refine ⟨nW - i + 1, ?_⟩
    rw [r_meets_l R1 (IB_49 B 0) hk hn1 hW _ post (nW - i) i (by omega), show z_meet (up2 σ 49 0 0) k = z_meet σ k from funext (fun l => z_meet_49 σ 0 k l)]
    exact h9
  · refine ⟨1, ?_⟩
    rw [show nW - i = 0 by omega] at h9
    unfold w_X9_meets_l32
    have c : nI nW ≤ nI i := by rw [qn_le (by omega) hi2]; omega
    simp only [RM_all R1, Option.some.injEq, exists_eq_left', true_and, and_true, isIn_eq, bI_0, Classical.not_not, bo_0, bo_1, bI_bo, up2_s, up2_f, ne_eq, Nat.reduceEqDiff, not_false_eq_true, hn, c]
    exact ⟨fun _ => h9, fun n => absurd trivial n⟩
noncomputable def q_of (σ : SG) (x w : Int32) : Int32 := iT (¬ (0 ≤ x ∧ x ≤ σ 23 0 - 1)) 1 (iT (¬ (0 ≤ w ∧ w ≤ 7)) 2 0)
noncomputable def z_what (σ : SG) (k : Nat) (w : Int32) : Int32 :=
  iT (w = 0) (σ 33 k) (iT (w = 1) (z_last σ k) (iT (w = 2) (σ 34 k) (iT (w = 3) (σ 35 k) (iT (w = 4) (σ 36 k) (iT (w = 5) (nI (z_opens σ (nI k))) (iT (w = 6) (iT (σ 37 k = 0) 0 1) (iT (σ 38 k = 0) 0 1)))))))
theorem z_what_0 (σ : SG) (k : Nat) : z_what σ k (nI 0) = σ 33 k := by
  unfold z_what
  rw [iT_T (show nI 0 = 0 from rfl)]
theorem z_what_1 (σ : SG) (k : Nat) : z_what σ k (nI 1) = z_last σ k := by
  unfold z_what
  rw [iT_F (show ¬ nI 1 = 0 by decide), iT_T (show nI 1 = 1 from rfl)]
theorem z_what_2 (σ : SG) (k : Nat) : z_what σ k (nI 2) = σ 34 k := by
  unfold z_what
  rw [iT_F (show ¬ nI 2 = 0 by decide), iT_F (show ¬ nI 2 = 1 by decide), iT_T (show nI 2 = 2 from rfl)]
theorem z_what_3 (σ : SG) (k : Nat) : z_what σ k (nI 3) = σ 35 k := by
  unfold z_what
  rw [iT_F (show ¬ nI 3 = 0 by decide), iT_F (show ¬ nI 3 = 1 by decide), iT_F (show ¬ nI 3 = 2 by decide), iT_T (show nI 3 = 3 from rfl)]
theorem z_what_4 (σ : SG) (k : Nat) : z_what σ k (nI 4) = σ 36 k := by
  unfold z_what
  rw [iT_F (show ¬ nI 4 = 0 by decide), iT_F (show ¬ nI 4 = 1 by decide), iT_F (show ¬ nI 4 = 2 by decide), iT_F (show ¬ nI 4 = 3 by decide), iT_T (show nI 4 = 4 from rfl)]
theorem z_what_5 (σ : SG) (k : Nat) : z_what σ k (nI 5) = nI (z_opens σ (nI k)) := by
  unfold z_what
  rw [iT_F (show ¬ nI 5 = 0 by decide), iT_F (show ¬ nI 5 = 1 by decide), iT_F (show ¬ nI 5 = 2 by decide), iT_F (show ¬ nI 5 = 3 by decide), iT_F (show ¬ nI 5 = 4 by decide), iT_T (show nI 5 = 5 from rfl)]
theorem z_what_6 (σ : SG) (k : Nat) : z_what σ k (nI 6) = iT (σ 37 k = 0) 0 1 := by
  unfold z_what
  rw [iT_F (show ¬ nI 6 = 0 by decide), iT_F (show ¬ nI 6 = 1 by decide), iT_F (show ¬ nI 6 = 2 by decide), iT_F (show ¬ nI 6 = 3 by decide), iT_F (show ¬ nI 6 = 4 by decide), iT_F (show ¬ nI 6 = 5 by decide), iT_T (show nI 6 = 6 from rfl)]
theorem z_what_7 (σ : SG) (k : Nat) : z_what σ k (nI 7) = iT (σ 38 k = 0) 0 1 := by
  unfold z_what
  rw [iT_F (show ¬ nI 7 = 0 by decide), iT_F (show ¬ nI 7 = 1 by decide), iT_F (show ¬ nI 7 = 2 by decide), iT_F (show ¬ nI 7 = 3 by decide), iT_F (show ¬ nI 7 = 4 by decide), iT_F (show ¬ nI 7 = 5 by decide), iT_F (show ¬ nI 7 = 6 by decide)]
theorem z_opens_49 (σ : SG) (t x : Int32) : z_opens (up2 σ 49 0 t) x = z_opens σ x := by
  simp only [z_opens, up2_f, ne_eq, Nat.reduceEqDiff, not_false_eq_true]
theorem r_of (R : RM A m S σ μ) (B : IB σ) (x w : Int32) (post : Int32 → PT → Prop)
    (hx : ∀ S', ¬ q_of σ x w = 0 → RM A m S' (up2 σ 49 0 (q_of σ x w)) μ → post 0 S')
    (h : ∀ S', q_of σ x w = 0 → RM A m S' (up2 σ 49 0 0) μ → post (z_what σ x.toNatClampNeg w) S') : w_X9_of m x w S post := by
  have e : w_X9_of m x w S post = w_X9_of_b28 m x w post S (some m) (q_of σ x w) := by
    unfold w_X9_of q_of
    simp only [RM_all R, Option.some.injEq, exists_eq_left', true_and, and_true, isIn_eq, bI_0, Classical.not_not, bo_0, bo_1, bI_bo, forall_eq, r_areWorks R, br2, br2']
    ((try simp only [iT]) <;> (repeat' split) <;> first | rfl | grind | (exfalso; simp_all; done) | (simp_all; done) | (simp only [ile, ilt] at *; (repeat' split) <;> first | rfl | (exfalso; omega) | (exfalso; simp_all; done)))
  rw [e]
  generalize hq : q_of σ x w = t at *
  unfold w_X9_of_b28 w_X9_of_b134 w_X9_of_b149
  simp only [RM_all R, Option.some.injEq, exists_eq_left', true_and, and_true, isIn_eq, bI_0, Classical.not_not, bo_0, bo_1, bI_bo, up2_s, up2_f, ne_eq, Nat.reduceEqDiff, not_false_eq_true]
  refine r_goes R _ (fun S1 R1 => ⟨fun ht => ?_, fun ht => hx S1 (by rw [bI_0] at ht; exact ht) R1⟩)
  rw [bI_0, Classical.not_not] at ht
  subst ht
  obtain ⟨h1, hq2⟩ := q1 (by decide) hq
  obtain ⟨h2, -⟩ := q1 (by decide) hq2
  rw [Classical.not_not] at h1 h2
  obtain ⟨k, hk, rfl, hk2⟩ := vin_ex (wk_in B h1)
  have g1 : vp_in (nI k) 24 := vin_nI hk (by decide)
  have g2 : (nI k).toNatClampNeg = k := qn_nat hk2
  have h9 := h S1 rfl R1
  rw [g2] at h9
  obtain ⟨i, hi, rfl, hi2⟩ := ex_nI (x := w) (n := 8) (by rw [not_lt32]; exact h2.1) (by have := h2.2; rw [ile, show (7 : Int32).toInt = 7 from by decide] at this; omega)
  rcases (show i = 0 ∨ i = 1 ∨ i = 2 ∨ i = 3 ∨ i = 4 ∨ i = 5 ∨ i = 6 ∨ i = 7 by omega) with rfl | rfl | rfl | rfl | rfl | rfl | rfl | rfl
  all_goals
    simp only [RM_all R1, Option.some.injEq, exists_eq_left', true_and, and_true, isIn_eq, bI_0, Classical.not_not, bo_0, bo_1, bI_bo, up2_s, up2_f, ne_eq, Nat.reduceEqDiff, not_false_eq_true, g1, g2, r_lastDay R1 hk, r_openOf R1, z_opens_49]
    refine ⟨fun n => ?_, fun n => ?_, fun n => ?_, fun n => ?_, fun n => ?_, fun n => ?_, fun n => ?_, fun n => ?_⟩
  all_goals first
    | (exfalso; revert n; decide)
    | (rw [z_what_0] at h9; exact h9)
    | (rw [z_what_1] at h9; simp only [z_last, up2_f, ne_eq, Nat.reduceEqDiff, not_false_eq_true]; exact h9)
    | (rw [z_what_2] at h9; exact h9)
    | (rw [z_what_3] at h9; exact h9)
    | (rw [z_what_4] at h9; exact h9)
    | (rw [z_what_5] at h9; exact h9)
    | (rw [z_what_6] at h9; exact ⟨fun n0 => by rw [iT_T n0] at h9; exact h9, fun n0 => by rw [iT_F n0] at h9; exact h9⟩)
    | (rw [z_what_7] at h9; exact ⟨fun n0 => by rw [iT_T n0] at h9; exact h9, fun n0 => by rw [iT_F n0] at h9; exact h9⟩)
end Q
