/-! metres, searches, queues, holes that are due, money -/
section Q
variable {A : Nat → Nat} {m : Nat} {S : PT} {σ : SG} {μ : MU}
noncomputable def q_metre (σ : SG) (x y w : Int32) : Int32 := iT (¬ z_mt σ x y) 1 (iT (¬ (0 ≤ w ∧ w ≤ 3)) 2 0)
def z_mat (x y : Int32) : Nat := 40 * x.toNatClampNeg + y.toNatClampNeg
noncomputable def z_mwhat (σ : SG) (x y w : Int32) (nT nF : Nat) : Int32 :=
  iT (w = 0) (bI (aN (fun t => z_susB σ t x y) nT)) (iT (w = 1) (iT (σ 12 (z_mat x y) = 0) 0 1) (iT (w = 2) (σ 13 (z_mat x y)) (nI (cN (fun k => σ 41 k = z_q x y) nF))))
theorem r_metre (R : RM A m S σ μ) (B : IB σ) {nT nF : Nat} (hn : σ 14 0 = nI nT) (hT : nT ≤ 30) (hf : σ 40 0 = nI nF) (hF : nF ≤ 1000) (x y w : Int32) (post : Int32 → PT → Prop)
    (hx : ∀ S', ¬ q_metre σ x y w = 0 → RM A m S' (up2 σ 49 0 (q_metre σ x y w)) μ → post 0 S')
    (h : ∀ S', q_metre σ x y w = 0 → RM A m S' (up2 σ 49 0 0) μ → post (z_mwhat σ x y w nT nF) S') : w_X9_metre m x y w S post := by
  have e : w_X9_metre m x y w S post = w_X9_metre_b28 m x y w post S (some m) (q_metre σ x y w) := by
    unfold w_X9_metre q_metre
    simp only [RM_all R, Option.some.injEq, exists_eq_left', true_and, and_true, isIn_eq, bI_0, Classical.not_not, bo_0, bo_1, bI_bo, forall_eq, r_mt R B, br2, br2']
    ((try simp only [iT]) <;> (repeat' split) <;> first | rfl | grind | (exfalso; simp_all; done) | (simp_all; done) | (simp only [ile, ilt] at *; (repeat' split) <;> first | rfl | (exfalso; omega) | (exfalso; simp_all; done)))
  rw [e]
  generalize hq : q_metre σ x y w = t at *
  unfold w_X9_metre_b28 w_X9_metre_b109
  simp only [RM_all R, Option.some.injEq, exists_eq_left', true_and, and_true, isIn_eq, bI_0, Classical.not_not, bo_0, bo_1, bI_bo, up2_s, up2_f, ne_eq, Nat.reduceEqDiff, not_false_eq_true]
  refine r_goes R _ (fun S1 R1 => ⟨fun ht => ?_, fun ht => hx S1 (by rw [bI_0] at ht; exact ht) R1⟩)
  rw [bI_0, Classical.not_not] at ht
  subst ht
  obtain ⟨h1, hq2⟩ := q1 (by decide) hq
  rw [Classical.not_not] at h1
  obtain ⟨a, b, rfl, rfl, ha, hb⟩ := mt_in B h1
  have c1 : vp_in (nI (40 * a + b)) 240 := vin_nI (by omega) (by decide)
  have c2 : (nI (40 * a + b)).toNatClampNeg = 40 * a + b := qn_nat (by omega)
  have h9 := h S1 rfl R1
  unfold z_mwhat z_mat at h9
  rw [qn_nat (show a < 2147483648 by omega), qn_nat (show b < 2147483648 by omega)] at h9
  have eF : ∀ x, w_X9_fillsOf m x S1 = fun p => p (nI (cN (fun k => σ 41 k = x) nF)) S1 := fun x => by
    funext p
    rw [r_fillsOf R1 (nF := nF) (by simp only [up2_f, ne_eq, Nat.reduceEqDiff, not_false_eq_true]; exact hf) (by omega)]
    simp only [up2_f, ne_eq, Nat.reduceEqDiff, not_false_eq_true]
  have eS : ∀ p, w_X9_isSuspect m (nI a) (nI b) S1 p = p (bI (aN (fun t => z_susB σ t (nI a) (nI b)) nT)) S1 := fun p => by
    rw [r_isSuspect R1 (nT := nT) (by simp only [up2_f, ne_eq, Nat.reduceEqDiff, not_false_eq_true]; exact hn) hT]
    simp only [z_susB, up2_f, ne_eq, Nat.reduceEqDiff, not_false_eq_true]
  simp only [RM_all R1, Option.some.injEq, exists_eq_left', true_and, and_true, isIn_eq, bI_0, Classical.not_not, bo_0, bo_1, bI_bo, up2_s, up2_f, ne_eq, Nat.reduceEqDiff, not_false_eq_true, at_eq, c1, c2, eF, eS]
  refine ⟨fun w0 => ⟨fun w1 => ⟨fun w2 => ?_, fun w2 => ?_⟩, fun w1 => ⟨fun n => ?_, fun n => ?_⟩⟩, fun w0 => ⟨fun n => ?_, fun n => ?_⟩⟩
  · rw [iT_F w0, iT_F w1, iT_F w2, z_q, at_eq] at h9; exact h9
  · rw [iT_F w0, iT_F w1, iT_T w2] at h9; exact h9
  · rw [iT_F w0, iT_T w1, iT_T n] at h9; exact h9
  · rw [iT_F w0, iT_T w1, iT_F n] at h9; exact h9
  · rw [iT_T w0, bI_F n] at h9; exact h9
  · rw [iT_T w0, bI_T n] at h9; exact h9
noncomputable def q_search (σ : SG) (x a b : Int32) : Int32 := iT (¬ (z_mt σ x a ∧ z_mt σ x b)) 1 (iT (¬ a ≤ b) 2 0)
def z_sr (σ : SG) (x a b : Int32) (t : Nat) : Prop := ¬ σ 20 t = 0 ∧ σ 16 t = x ∧ σ 21 t ≤ b ∧ a ≤ σ 22 t
theorem q_or0 (x : Int32) : x ||| 0 = x := Int32.or_zero
theorem r_search (R : RM A m S σ μ) (B : IB σ) {nT : Nat} (hn : σ 14 0 = nI nT) (hT : nT ≤ 30) (x a b : Int32) (post : Int32 → PT → Prop)
    (hx : ∀ S', ¬ q_search σ x a b = 0 → RM A m S' (up2 σ 49 0 (q_search σ x a b)) μ → post 0 S')
    (h : ∀ S', q_search σ x a b = 0 → RM A m S' (up2 σ 49 0 0) μ → post (z_srch (z_sr σ x a b) nT) S') : w_X9_search m x a b S post := by
  have e : w_X9_search m x a b S post = w_X9_search_b45 m x a b post S (some m) (q_search σ x a b) := by
    unfold w_X9_search w_X9_search_b22 w_X9_search_b23 q_search
    simp only [RM_all R, Option.some.injEq, exists_eq_left', true_and, and_true, isIn_eq, bI_0, Classical.not_not, bo_0, bo_1, bI_bo, forall_eq, r_mt R B, br2, br2']
    ((try simp only [iT]) <;> (repeat' split) <;> first | rfl | grind | (exfalso; simp_all; done) | (simp_all; done) | (simp only [ile, ilt] at *; (repeat' split) <;> first | rfl | (exfalso; omega) | (exfalso; simp_all; done)))
  rw [e]
  generalize hq : q_search σ x a b = t at *
  unfold w_X9_search_b45
  simp only [RM_all R, Option.some.injEq, exists_eq_left', true_and, and_true, isIn_eq, bI_0, Classical.not_not, bo_0, bo_1, bI_bo, up2_s, up2_f, ne_eq, Nat.reduceEqDiff, not_false_eq_true]
  refine r_goes R _ (fun S1 R1 => ⟨fun ht => ?_, fun ht => hx S1 (by rw [bI_0] at ht; exact ht) R1⟩)
  rw [bI_0, Classical.not_not] at ht
  subst ht
  have h9 := h S1 rfl R1
  have hn2 : (up2 σ 49 0 0 : SG) 14 0 = nI nT := by simp only [up2_f, ne_eq, Nat.reduceEqDiff, not_false_eq_true]; exact hn
  refine (loop_ex (N := nT) (i0 := 0) (fun i => z_srch (z_sr σ x a b) i) (fun n c v => w_X9_search_l59 m x a b post n S1 c v) (post (z_srch (z_sr σ x a b) nT) S1) (Nat.zero_le _) rfl rfl (fun _ _ => rfl) (fun n => ?_) (fun n i _ hi => ?_)).mpr h9
  · show w_X9_search_l59 m x a b post (n + 1) S1 _ _ = _
    unfold w_X9_search_l59
    have c : nI nT ≤ nI nT := by rw [qn_le (by omega) (by omega)]; omega
    simp only [RM_all R1, Option.some.injEq, exists_eq_left', true_and, and_true, isIn_eq, bI_0, Classical.not_not, bo_0, bo_1, bI_bo, forall_eq, hn2, c]
    simp
  · show w_X9_search_l59 m x a b post (n + 1) S1 _ _ = w_X9_search_l59 m x a b post n S1 _ _
    conv => lhs; unfold w_X9_search_l59
    unfold w_X9_search_b115 w_X9_search_b116 w_X9_search_b133
    have c : ¬ nI nT ≤ nI i := by rw [qn_le (by omega) (by omega)]; omega
    have c1 : vp_in (nI i) 30 := vin_nI (by omega) (by decide)
    have c2 : (nI i).toNatClampNeg = i := qn_nat (by omega)
    simp only [RM_all R1, Option.some.injEq, exists_eq_left', true_and, and_true, isIn_eq, bI_0, Classical.not_not, bo_0, bo_1, bI_bo, forall_eq, hn2, c, c1, c2, br2, br2', z_srch_s, qn_s]
    simp only [z_sr, up2_f, ne_eq, Nat.reduceEqDiff, not_false_eq_true, ← not_lt32]
    ((try simp only [iT]) <;> (repeat' split) <;> first | rfl | grind | (exfalso; simp_all; done) | (simp_all; done) | (simp only [ile, ilt] at *; (repeat' split) <;> first | rfl | (exfalso; omega) | (exfalso; simp_all; done)))
noncomputable def q_st (σ : SG) (x : Int32) : Int32 := iT (¬ (0 ≤ x ∧ x ≤ σ 1 0 - 1)) 1 0
theorem r_queue (R : RM A m S σ μ) (B : IB σ) (x : Int32) (post : Int32 → PT → Prop)
    (hx : ∀ S', ¬ q_st σ x = 0 → RM A m S' (up2 σ 49 0 (q_st σ x)) μ → post 0 S')
    (h : ∀ S', q_st σ x = 0 → RM A m S' (up2 σ 49 0 0) μ → post (σ 10 x.toNatClampNeg) S') : w_X9_queue m x S post := by
  have e : w_X9_queue m x S post = w_X9_queue_b14 m x post S (some m) (q_st σ x) := by
    unfold w_X9_queue q_st
    simp only [RM_all R, Option.some.injEq, exists_eq_left', true_and, and_true, isIn_eq, bI_0, Classical.not_not, bo_0, bo_1, bI_bo, forall_eq, r_isStreet R, br2, br2']
    ((try simp only [iT]) <;> (repeat' split) <;> first | rfl | grind | (exfalso; simp_all; done) | (simp_all; done) | (simp only [ile, ilt] at *; (repeat' split) <;> first | rfl | (exfalso; omega) | (exfalso; simp_all; done)))
  rw [e]
  generalize hq : q_st σ x = t at *
  unfold w_X9_queue_b14 w_X9_queue_b30
  simp only [RM_all R, Option.some.injEq, exists_eq_left', true_and, and_true, isIn_eq, bI_0, Classical.not_not, bo_0, bo_1, bI_bo, up2_s, up2_f, ne_eq, Nat.reduceEqDiff, not_false_eq_true]
  refine r_goes R _ (fun S1 R1 => ⟨fun ht => hx S1 (by rw [bI_0] at ht; exact ht) R1, fun ht => ?_⟩)
  rw [bI_0, Classical.not_not] at ht
  subst ht
  obtain ⟨h1, -⟩ := q1 (by decide) hq
  rw [Classical.not_not] at h1
  have hv := st_in B h1
  simp only [RM_all R1, Option.some.injEq, exists_eq_left', true_and, and_true, isIn_eq, bI_0, Classical.not_not, bo_0, bo_1, bI_bo, up2_s, up2_f, ne_eq, Nat.reduceEqDiff, not_false_eq_true, hv]
  exact h S1 rfl R1
noncomputable def q_pr (x : Int32) : Int32 := iT (¬ (0 ≤ x ∧ x ≤ 4)) 1 0
def z_fb (σ : SG) (x : Int32) (k : Nat) : Prop := σ 24 (σ 42 k).toNatClampNeg = x
noncomputable def z_hun (f : Int32) : Int32 := iT (5 + 5 * f ≤ 50) (5 + 5 * f) 50
noncomputable def z_due (σ : SG) (x : Int32) (nF : Nat) : Int32 :=
  iT (0 ≤ (nI (cN (z_fb σ x) nF) * z_hun (σ 46 x.toNatClampNeg) + 99) / 100 - σ 47 x.toNatClampNeg) ((nI (cN (z_fb σ x) nF) * z_hun (σ 46 x.toNatClampNeg) + 99) / 100 - σ 47 x.toNatClampNeg) 0
theorem r_due (R : RM A m S σ μ) (B : IB σ) {nF : Nat} (hf : σ 40 0 = nI nF) (hF : nF ≤ 1000) (x : Int32) (post : Int32 → PT → Prop)
    (hx : ∀ S', ¬ q_pr x = 0 → RM A m S' (up2 σ 49 0 (q_pr x)) μ → post 0 S')
    (h : ∀ S', q_pr x = 0 → RM A m S' (up2 σ 49 0 0) μ → post (z_due σ x nF) S') : w_X9_due m x S post := by
  have e : w_X9_due m x S post = w_X9_due_b13 m x post S (some m) (q_pr x) := by
    unfold w_X9_due q_pr
    simp only [RM_all R, Option.some.injEq, exists_eq_left', true_and, and_true, isIn_eq, bI_0, Classical.not_not, bo_0, bo_1, bI_bo, forall_eq, r_isPromoter, br2, br2']
    ((try simp only [iT]) <;> (repeat' split) <;> first | rfl | grind | (exfalso; simp_all; done) | (simp_all; done) | (simp only [ile, ilt] at *; (repeat' split) <;> first | rfl | (exfalso; omega) | (exfalso; simp_all; done)))
  rw [e]
  generalize hq : q_pr x = t at *
  unfold w_X9_due_b13
  simp only [RM_all R, Option.some.injEq, exists_eq_left', true_and, and_true, isIn_eq, bI_0, Classical.not_not, bo_0, bo_1, bI_bo, up2_s, up2_f, ne_eq, Nat.reduceEqDiff, not_false_eq_true]
  refine r_goes R _ (fun S1 R1 => ⟨fun ht => ?_, fun ht => hx S1 (by rw [bI_0] at ht; exact ht) R1⟩)
  rw [bI_0, Classical.not_not] at ht
  subst ht
  obtain ⟨h1, -⟩ := q1 (by decide) hq
  rw [Classical.not_not] at h1
  obtain ⟨p, hp, rfl, hp2⟩ := ex_nI (x := x) (n := 5) (by rw [not_lt32]; exact h1.1) (by have := h1.2; rw [ile, show (4 : Int32).toInt = 4 from by decide] at this; omega)
  have g1 : vp_in (nI p) 5 := vin_nI hp (by decide)
  have g2 : (nI p).toNatClampNeg = p := qn_nat hp2
  have h9 := h S1 rfl R1
  unfold z_due z_hun at h9
  rw [g2] at h9
  have hn2 : (up2 σ 49 0 0 : SG) 40 0 = nI nF := by simp only [up2_f, ne_eq, Nat.reduceEqDiff, not_false_eq_true]; exact hf
  have e4 : ∀ k, vp_in (σ 42 k) 24 := fun k => IB_vin B 42 k 24 (by decide) (by decide)
  refine (loop_ex (N := nF) (i0 := 0) (fun i => nI (cN (z_fb σ (nI p)) i)) (fun n c v => w_X9_due_l25 m (nI p) post n S1 c v) _ (Nat.zero_le _) rfl rfl (fun _ _ => rfl) (fun n => ?_) (fun n i _ hi => ?_)).mpr h9
  · show w_X9_due_l25 m (nI p) post (n + 1) S1 _ _ = _
    unfold w_X9_due_l25 w_X9_due_b85 w_X9_due_b115
    have c : nI nF ≤ nI nF := by rw [qn_le (by omega) (by omega)]; omega
    simp only [RM_all R1, Option.some.injEq, exists_eq_left', true_and, and_true, isIn_eq, bI_0, Classical.not_not, bo_0, bo_1, bI_bo, up2_s, up2_f, ne_eq, Nat.reduceEqDiff, not_false_eq_true, hf, c, g1, g2, br2, br2']
    rw [iT_tt]
    by_cases k1 : 5 + 5 * σ 46 p ≤ 50
    · rw [iT_T k1, iT_T k1]
      refine iT_ind (fun y => (y : Prop) = _) (fun k2 => by rw [iT_T k2]) (fun k2 => by rw [iT_F k2])
    · rw [iT_F k1, iT_F k1]
      refine iT_ind (fun y => (y : Prop) = _) (fun k2 => by rw [iT_T k2]) (fun k2 => by rw [iT_F k2])
  · show w_X9_due_l25 m (nI p) post (n + 1) S1 _ _ = w_X9_due_l25 m (nI p) post n S1 _ _
    conv => lhs; unfold w_X9_due_l25
    unfold w_X9_due_b54
    have c : ¬ nI nF ≤ nI i := by rw [qn_le (by omega) (by omega)]; omega
    have c1 : vp_in (nI i) 1024 := vin_nI (by omega) (by decide)
    have c2 : (nI i).toNatClampNeg = i := qn_nat (by omega)
    have e5 : vp_in (σ 42 i) 24 := e4 i
    simp only [RM_all R1, Option.some.injEq, exists_eq_left', true_and, and_true, isIn_eq, bI_0, Classical.not_not, bo_0, bo_1, bI_bo, up2_s, up2_f, ne_eq, Nat.reduceEqDiff, not_false_eq_true, hf, c, c1, c2, e5, br2, br2', cN_s, qn_s, q_add0]
    simp only [z_fb]
    ((try simp only [iT]) <;> (repeat' split) <;> first | rfl | grind | (exfalso; simp_all; done) | (simp_all; done) | (simp only [ile, ilt] at *; (repeat' split) <;> first | rfl | (exfalso; omega) | (exfalso; simp_all; done)))
noncomputable def q_mo (x : Int32) : Int32 := iT (¬ (0 ≤ x ∧ x ≤ 5)) 1 0
theorem mo_in {x : Int32} (h : q_mo x = 0) : ∃ p : Nat, p < 6 ∧ x = nI p := by
  obtain ⟨h1, -⟩ := q1 (by decide) h
  rw [Classical.not_not] at h1
  obtain ⟨p, hp, e, -⟩ := ex_nI (x := x) (n := 6) (by rw [not_lt32]; exact h1.1) (by have := h1.2; rw [ile, show (5 : Int32).toInt = 5 from by decide] at this; omega)
  exact ⟨p, hp, e⟩
theorem r_money (R : RM A m S σ μ) (x : Int32) (post : Int64 → PT → Prop)
    (hx : ∀ S', ¬ q_mo x = 0 → RM A m S' (up2 σ 49 0 (q_mo x)) μ → post 0 S')
    (h : ∀ S', q_mo x = 0 → RM A m S' (up2 σ 49 0 0) μ → post (μ x.toNatClampNeg) S') : w_X9_money m x S post := by
  have e : w_X9_money m x S post = w_X9_money_b15 m x post S (some m) (q_mo x) := by
    unfold w_X9_money q_mo
    simp only [RM_all R, Option.some.injEq, exists_eq_left', true_and, and_true, isIn_eq, bI_0, Classical.not_not, bo_0, bo_1, bI_bo, forall_eq, br2, br2']
    ((try simp only [iT]) <;> (repeat' split) <;> first | rfl | grind | (exfalso; simp_all; done) | (simp_all; done) | (simp only [ile, ilt] at *; (repeat' split) <;> first | rfl | (exfalso; omega) | (exfalso; simp_all; done)))
  rw [e]
  generalize hq : q_mo x = t at *
  unfold w_X9_money_b15 w_X9_money_b31
  simp only [RM_all R, Option.some.injEq, exists_eq_left', true_and, and_true, isIn_eq, bI_0, Classical.not_not, bo_0, bo_1, bI_bo, up2_s, up2_f, ne_eq, Nat.reduceEqDiff, not_false_eq_true]
  refine r_goes R _ (fun S1 R1 => ⟨fun ht => hx S1 (by rw [bI_0] at ht; exact ht) R1, fun ht => ?_⟩)
  rw [bI_0, Classical.not_not] at ht
  subst ht
  obtain ⟨p, hp, rfl⟩ := mo_in hq
  have g1 : vp_in (nI p) 6 := vin_nI hp (by decide)
  simp only [RM_all R1, Option.some.injEq, exists_eq_left', true_and, and_true, isIn_eq, bI_0, Classical.not_not, bo_0, bo_1, bI_bo, up2_s, up2_f, ne_eq, Nat.reduceEqDiff, not_false_eq_true, g1]
  exact h S1 rfl R1
theorem r_moneyAnew (R : RM A m S σ μ) (x : Int32) (post : Int64 → PT → Prop)
    (hx : ∀ S', ¬ q_mo x = 0 → RM A m S' (up2 σ 49 0 (q_mo x)) μ → post 0 S')
    (h : ∀ S', q_mo x = 0 → RM A m S' (up2 σ 49 0 0) μ → post (μ x.toNatClampNeg) S') : w_X9_moneyAnew m x S post := by
  have e : w_X9_moneyAnew m x S post = w_X9_moneyAnew_b15 m x post S (some m) (q_mo x) := by
    unfold w_X9_moneyAnew q_mo
    simp only [RM_all R, Option.some.injEq, exists_eq_left', true_and, and_true, isIn_eq, bI_0, Classical.not_not, bo_0, bo_1, bI_bo, forall_eq, br2, br2']
    ((try simp only [iT]) <;> (repeat' split) <;> first | rfl | grind | (exfalso; simp_all; done) | (simp_all; done) | (simp only [ile, ilt] at *; (repeat' split) <;> first | rfl | (exfalso; omega) | (exfalso; simp_all; done)))
  rw [e]
  generalize hq : q_mo x = t at *
  unfold w_X9_moneyAnew_b15 w_X9_moneyAnew_b31
  simp only [RM_all R, Option.some.injEq, exists_eq_left', true_and, and_true, isIn_eq, bI_0, Classical.not_not, bo_0, bo_1, bI_bo, up2_s, up2_f, ne_eq, Nat.reduceEqDiff, not_false_eq_true]
  refine r_goes R _ (fun S1 R1 => ⟨fun ht => hx S1 (by rw [bI_0] at ht; exact ht) R1, fun ht => ?_⟩)
  rw [bI_0, Classical.not_not] at ht
  subst ht
  obtain ⟨p, hp, rfl⟩ := mo_in hq
  have g1 : vp_in (nI p) 6 := vin_nI hp (by decide)
  simp only [RM_all R1, Option.some.injEq, exists_eq_left', true_and, and_true, isIn_eq, bI_0, Classical.not_not, bo_0, bo_1, bI_bo, up2_s, up2_f, ne_eq, Nat.reduceEqDiff, not_false_eq_true, g1]
  exact h S1 rfl R1
theorem r_thrown (R : RM A m S σ μ) (post : Int32 → PT → Prop) : w_X9_thrown m S post = post (σ 49 0) S := by
  unfold w_X9_thrown
  simp only [RM_all R, Option.some.injEq, exists_eq_left', true_and, and_true, isIn_eq, bI_0, Classical.not_not, bo_0, bo_1, bI_bo, forall_eq]
end Q
