/-! the calls on things in the ground -/
def z_uns (σ : SG) (lo hi : Nat) : SG := fun f i => if f = 12 ∧ lo ≤ i ∧ i < hi then 0 else σ f i
theorem z_uns_0 (σ : SG) (lo : Nat) : z_uns σ lo lo = σ := by
  funext f i
  unfold z_uns
  rw [if_neg (by omega)]
theorem z_uns_s (σ : SG) {lo hi : Nat} (h : lo < hi) : z_uns (up2 σ 12 lo 0) (lo + 1) hi = z_uns σ lo hi := by
  funext f i
  unfold z_uns up2
  by_cases h1 : f = 12
  · by_cases h2 : i = lo
    · rw [if_neg (by omega), if_pos ⟨h1, h2⟩, if_pos (by omega)]
    · by_cases h3 : lo + 1 ≤ i ∧ i < hi
      · rw [if_pos ⟨h1, h3⟩, if_pos (by omega)]
      · rw [if_neg (by omega), if_neg (by omega), if_neg (by omega)]
  · rw [if_neg (by omega), if_neg (by omega), if_neg (by omega)]
theorem z_uns_f (σ : SG) (lo hi : Nat) {f : Nat} (i : Nat) (h : f ≠ 12) : z_uns σ lo hi f i = σ f i := by
  unfold z_uns; rw [if_neg (by omega)]
def z_len (σ : SG) (s : Nat) : Nat := (σ 2 s).toNatClampNeg
theorem z_len_i {σ : SG} (B : IB σ) (s : Nat) : σ 2 s = nI (z_len σ s) ∧ z_len σ s ≤ 40 := by
  obtain ⟨k, e, h1, h2⟩ := IB_nI B 2 s rfl
  unfold z_len
  rw [e, qn_nat h2]
  refine ⟨rfl, ?_⟩
  have : (k : Int) ≤ 40 := h1
  omega
noncomputable def z_susN (σ : SG) (t : Nat) : Int32 := nI (cN (fun y => z_susB σ t (σ 16 t) (nI y)) (z_len σ (σ 16 t).toNatClampNeg))
section Q
variable {A : Nat → Nat} {m : Nat} {S : PT} {σ : SG} {μ : MU}
theorem r_thing_l {s b : Nat} (hs : s < 6) (hb : b < 40) (x1 x3 x5 : Int32) (post : Int32 → PT → Prop) : ∀ (d i : Nat) (S : PT) (σ : SG), RM A m S σ μ → i + d = b + 1 →
    (∀ S', RM A m S' (up2 (z_uns σ (40 * s + i) (40 * s + b + 1)) 14 0 (σ 14 0 + 1)) μ → post (σ 14 0 + 1 - 1) S') → w_X9_thing_l155 m x1 (nI s) x3 (nI b) x5 post (d + 1) S (nI i) := by
  intro d
  induction d with
  | zero =>
    intro i S σ R hi h
    have e : i = b + 1 := by omega
    subst e
    unfold w_X9_thing_l155
    have c : nI b < nI (b + 1) := by rw [qn_lt (by omega) (by omega)]; omega
    refine ⟨fun _ => ?_, fun n => absurd c n⟩
    simp only [RM_all R, Option.some.injEq, exists_eq_left', true_and, and_true, isIn_eq, bI_0, Classical.not_not, bo_0, bo_1, bI_bo, up2_s, up2_f, ne_eq, Nat.reduceEqDiff, not_false_eq_true]
    refine RM_uI R 14 rfl rfl (fun S1 R1 => ?_)
    simp only [RM_all R1, Option.some.injEq, exists_eq_left', true_and, and_true, isIn_eq, bI_0, Classical.not_not, bo_0, bo_1, bI_bo, up2_s, up2_f, ne_eq, Nat.reduceEqDiff, not_false_eq_true]
    refine h S1 ?_
    rw [show 40 * s + (b + 1) = 40 * s + b + 1 by omega, z_uns_0]
    exact R1
  | succ d ih =>
    intro i S σ R hi h
    unfold w_X9_thing_l155
    have c : ¬ nI b < nI i := by rw [qn_lt (by omega) (by omega)]; omega
    refine ⟨fun n => absurd n c, fun _ => ?_⟩
    have c1 : vp_in (nI (40 * s + i)) 240 := vin_nI (by omega) (by decide)
    have c2 : (nI (40 * s + i)).toNatClampNeg = 40 * s + i := qn_nat (by omega)
    simp only [RM_all R, Option.some.injEq, exists_eq_left', true_and, and_true, isIn_eq, bI_0, Classical.not_not, bo_0, bo_1, bI_bo, up2_s, up2_f, ne_eq, Nat.reduceEqDiff, not_false_eq_true, at_eq, c1, c2, qn_s]
    refine RM_uA R rfl (by decide) (fun S1 R1 => ih (i + 1) S1 _ R1 (by omega) ?_)
    rw [show 40 * s + (i + 1) = 40 * s + i + 1 by omega, z_uns_s σ (by omega)]
    exact h
noncomputable def q_thing (σ : SG) (x1 x2 x3 x4 x5 : Int32) : Int32 := iT (¬ ((0 ≤ x1 ∧ x1 ≤ 4) ∧ z_mt σ x2 x3 ∧ z_mt σ x2 x4)) 1 (iT (¬ (¬ x4 < x3 ∧ 10 ≤ x5 ∧ x5 ≤ 300)) 2 (iT (σ 14 0 = 30) 3 0))
def u_thing (σ : SG) (x1 x2 x3 x4 x5 : Int32) : SG := up2 (z_uns (up2 (up2 (up2 (up2 (up2 (up2 σ 49 0 0) 15 (σ 14 0).toNatClampNeg x1) 16 (σ 14 0).toNatClampNeg x2) 17 (σ 14 0).toNatClampNeg x3) 18 (σ 14 0).toNatClampNeg x4) 19 (σ 14 0).toNatClampNeg x5) (40 * x2.toNatClampNeg + x3.toNatClampNeg) (40 * x2.toNatClampNeg + x4.toNatClampNeg + 1)) 14 0 (σ 14 0 + 1)
theorem r_thing (R : RM A m S σ μ) (B : IB σ) (x1 x2 x3 x4 x5 : Int32) (post : Int32 → PT → Prop)
    (hx : ∀ S', ¬ q_thing σ x1 x2 x3 x4 x5 = 0 → RM A m S' (up2 σ 49 0 (q_thing σ x1 x2 x3 x4 x5)) μ → post 0 S')
    (h : ∀ S', q_thing σ x1 x2 x3 x4 x5 = 0 → RM A m S' (u_thing σ x1 x2 x3 x4 x5) μ → post (σ 14 0 + 1 - 1) S') : w_X9_thing m x1 x2 x3 x4 x5 S post := by
  have e : w_X9_thing m x1 x2 x3 x4 x5 S post = w_X9_thing_b92 m x1 x2 x3 x4 x5 post S (some m) (q_thing σ x1 x2 x3 x4 x5) := by
    unfold w_X9_thing w_X9_thing_b30 w_X9_thing_b31 w_X9_thing_b56 w_X9_thing_b57 q_thing
    simp only [RM_all R, Option.some.injEq, exists_eq_left', true_and, and_true, isIn_eq, bI_0, Classical.not_not, bo_0, bo_1, bI_bo, forall_eq, r_isPromoter, r_mt R B, br2, br2']
    ((try simp only [iT]) <;> (repeat' split) <;> first | rfl | grind | (exfalso; simp_all; done) | (simp_all; done) | (simp only [ile, ilt] at *; (repeat' split) <;> first | rfl | (exfalso; omega) | (exfalso; simp_all; done)))
  rw [e]
  generalize hq : q_thing σ x1 x2 x3 x4 x5 = t at *
  unfold w_X9_thing_b92
  simp only [RM_all R, Option.some.injEq, exists_eq_left', true_and, and_true, isIn_eq, bI_0, Classical.not_not, bo_0, bo_1, bI_bo, up2_s, up2_f, ne_eq, Nat.reduceEqDiff, not_false_eq_true]
  refine r_goes R _ (fun S1 R1 => ⟨fun ht => ?_, fun ht => hx S1 (by rw [bI_0] at ht; exact ht) R1⟩)
  rw [bI_0, Classical.not_not] at ht
  subst ht
  obtain ⟨h1, hq2⟩ := q1 (by decide) hq
  obtain ⟨h2, hq3⟩ := q1 (by decide) hq2
  obtain ⟨h3, -⟩ := q1 (by decide) hq3
  rw [Classical.not_not] at h1 h2
  obtain ⟨s, a, rfl, rfl, hs, ha⟩ := mt_in B h1.2.1
  obtain ⟨b, hb, rfl, -⟩ := vin_ex (below_in (n := 40) (B 2 _).2 (B 2 _).1 h1.2.2.2)
  have hab : a ≤ b := by have := h2.1; rw [qn_lt (by omega) (by omega)] at this; omega
  have hv : vp_in (σ 14 0) 30 := by
    have := B 14 0
    simp only [bl, bh] at this
    rw [ieq, show (30 : Int32).toInt = 30 from by decide] at h3
    unfold vp_in Int32.toNatClampNeg
    rw [ilt, I0]; simp at this; omega
  simp only [RM_all R1, Option.some.injEq, exists_eq_left', true_and, and_true, isIn_eq, bI_0, Classical.not_not, bo_0, bo_1, bI_bo, up2_s, up2_f, ne_eq, Nat.reduceEqDiff, not_false_eq_true, hv]
  refine RM_uA R1 rfl (by decide) (fun S2 R2 => ?_)
  simp only [RM_all R2, Option.some.injEq, exists_eq_left', true_and, and_true, isIn_eq, bI_0, Classical.not_not, bo_0, bo_1, bI_bo, up2_s, up2_f, ne_eq, Nat.reduceEqDiff, not_false_eq_true, hv]
  refine RM_uA R2 rfl (by decide) (fun S3 R3 => ?_)
  simp only [RM_all R3, Option.some.injEq, exists_eq_left', true_and, and_true, isIn_eq, bI_0, Classical.not_not, bo_0, bo_1, bI_bo, up2_s, up2_f, ne_eq, Nat.reduceEqDiff, not_false_eq_true, hv]
  refine RM_uA R3 rfl (by decide) (fun S4 R4 => ?_)
  simp only [RM_all R4, Option.some.injEq, exists_eq_left', true_and, and_true, isIn_eq, bI_0, Classical.not_not, bo_0, bo_1, bI_bo, up2_s, up2_f, ne_eq, Nat.reduceEqDiff, not_false_eq_true, hv]
  refine RM_uA R4 rfl (by decide) (fun S5 R5 => ?_)
  simp only [RM_all R5, Option.some.injEq, exists_eq_left', true_and, and_true, isIn_eq, bI_0, Classical.not_not, bo_0, bo_1, bI_bo, up2_s, up2_f, ne_eq, Nat.reduceEqDiff, not_false_eq_true, hv]
  refine RM_uA R5 rfl (by decide) (fun S6 R6 => ⟨b + 1 - a + 1, ?_⟩)
  refine r_thing_l hs hb _ _ _ post (b + 1 - a) a S6 _ R6 (by omega) (fun S7 R7 => ?_)
  have e2 : ∀ k : Nat, k < 2147483648 → (nI k).toNatClampNeg = k := fun k hk => qn_nat hk
  have := h S7 rfl
  unfold u_thing at this
  rw [e2 s (by omega), e2 a (by omega), e2 b (by omega)] at this
  simp only [up2_f, ne_eq, Nat.reduceEqDiff, not_false_eq_true] at R7 ⊢
  exact this R7
theorem r_records (R : RM A m S σ μ) {x : Int32} (hv : vp_in x 30) (a b c : Int32) {post : PT → Prop}
    (h : ∀ S', RM A m S' (up2 (up2 (up2 σ 20 x.toNatClampNeg 1) 21 x.toNatClampNeg (a - c)) 22 x.toNatClampNeg (b + c)) μ → post S') : w_X9_records m x a b c S post := by
  unfold w_X9_records
  simp only [RM_all R, Option.some.injEq, exists_eq_left', true_and, and_true, isIn_eq, bI_0, Classical.not_not, bo_0, bo_1, bI_bo, up2_s, up2_f, ne_eq, Nat.reduceEqDiff, not_false_eq_true, hv]
  refine RM_uA R rfl (by decide) (fun S2 R2 => ?_)
  simp only [RM_all R2, Option.some.injEq, exists_eq_left', true_and, and_true, isIn_eq, bI_0, Classical.not_not, bo_0, bo_1, bI_bo, up2_s, up2_f, ne_eq, Nat.reduceEqDiff, not_false_eq_true, hv]
  refine RM_uA R2 rfl (by decide) (fun S3 R3 => ?_)
  simp only [RM_all R3, Option.some.injEq, exists_eq_left', true_and, and_true, isIn_eq, bI_0, Classical.not_not, bo_0, bo_1, bI_bo, up2_s, up2_f, ne_eq, Nat.reduceEqDiff, not_false_eq_true, hv]
  exact RM_uA R3 rfl (by decide) (fun S4 R4 => h S4 R4)
noncomputable def q_record (σ : SG) (x a b c : Int32) : Int32 := iT (¬ ((0 ≤ x ∧ x ≤ σ 14 0 - 1) ∧ z_mt σ (σ 16 x.toNatClampNeg) a ∧ z_mt σ (σ 16 x.toNatClampNeg) b)) 1 (iT (b < a ∨ ¬ (0 ≤ c ∧ c ≤ 3)) 2 0)
def u_record (σ : SG) (x a b c : Int32) : SG := up2 (up2 (up2 (up2 σ 49 0 0) 20 x.toNatClampNeg 1) 21 x.toNatClampNeg (a - c)) 22 x.toNatClampNeg (b + c)
theorem r_record (R : RM A m S σ μ) (B : IB σ) (x a b c : Int32) (post : Int32 → PT → Prop)
    (hx : ∀ S', ¬ q_record σ x a b c = 0 → RM A m S' (up2 σ 49 0 (q_record σ x a b c)) μ → post 0 S')
    (h : ∀ S', q_record σ x a b c = 0 → RM A m S' (u_record σ x a b c) μ → post (z_susN (u_record σ x a b c) x.toNatClampNeg) S') : w_X9_record m x a b c S post := by
  have e : w_X9_record m x a b c S post = w_X9_record_b77 m x a b c post S (some m) (q_record σ x a b c) := by
    unfold w_X9_record w_X9_record_b44 w_X9_record_b45 w_X9_record_b72 q_record
    by_cases hv : 0 ≤ x ∧ x ≤ σ 14 0 - 1
    · have g1 := th_in B hv
      simp only [RM_all R, Option.some.injEq, exists_eq_left', true_and, and_true, isIn_eq, bI_0, Classical.not_not, bo_0, bo_1, bI_bo, forall_eq, r_isThing R, r_mt R B, g1, hv, br2, br2']
      ((try simp only [iT]) <;> (repeat' split) <;> first | rfl | grind | (exfalso; simp_all; done) | (simp_all; done) | (simp only [ile, ilt] at *; (repeat' split) <;> first | rfl | (exfalso; omega) | (exfalso; simp_all; done)))
    · simp only [RM_all R, Option.some.injEq, exists_eq_left', true_and, and_true, isIn_eq, bI_0, Classical.not_not, bo_0, bo_1, bI_bo, forall_eq, r_isThing R, hv, br2, br2']
      ((try simp only [iT]) <;> (repeat' split) <;> first | rfl | grind | (exfalso; simp_all; done) | (simp_all; done) | (simp only [ile, ilt] at *; (repeat' split) <;> first | rfl | (exfalso; omega) | (exfalso; simp_all; done)))
  rw [e]
  generalize hq : q_record σ x a b c = t at *
  unfold w_X9_record_b77
  simp only [RM_all R, Option.some.injEq, exists_eq_left', true_and, and_true, isIn_eq, bI_0, Classical.not_not, bo_0, bo_1, bI_bo, up2_s, up2_f, ne_eq, Nat.reduceEqDiff, not_false_eq_true]
  refine r_goes R _ (fun S1 R1 => ⟨fun ht => ?_, fun ht => hx S1 (by rw [bI_0] at ht; exact ht) R1⟩)
  rw [bI_0, Classical.not_not] at ht
  subst ht
  obtain ⟨h1, hq2⟩ := q1 (by decide) hq
  rw [Classical.not_not] at h1
  obtain ⟨k, hk, rfl, hk2⟩ := vin_ex (th_in B h1.1)
  have g1 : vp_in (nI k) 30 := vin_nI hk (by decide)
  have g2 : (nI k).toNatClampNeg = k := qn_nat hk2
  simp only [RM_all R1, Option.some.injEq, exists_eq_left', true_and, and_true, isIn_eq, bI_0, Classical.not_not, bo_0, bo_1, bI_bo, up2_s, up2_f, ne_eq, Nat.reduceEqDiff, not_false_eq_true]
  refine r_records R1 g1 a b c (fun S2 R2 => ?_)
  simp only [RM_all R2, Option.some.injEq, exists_eq_left', true_and, and_true, isIn_eq, bI_0, Classical.not_not, bo_0, bo_1, bI_bo, up2_s, up2_f, ne_eq, Nat.reduceEqDiff, not_false_eq_true]
  rw [g2] at R2
  have := h S2 rfl
  unfold u_record at this
  rw [g2] at this
  rw [r_suspects R2 (len := z_len σ (σ 16 k).toNatClampNeg) (by simp only [up2_f, ne_eq, Nat.reduceEqDiff, not_false_eq_true]; exact IB_vin B 16 k 6 (by decide) (by decide)) hk (by simp only [up2_f, ne_eq, Nat.reduceEqDiff, not_false_eq_true]; exact (z_len_i B _).1) (z_len_i B _).2]
  have h9 := this R2
  simp only [z_susN, z_len, up2_f, ne_eq, Nat.reduceEqDiff, not_false_eq_true] at h9 ⊢
  exact h9
def z_sure (σ : SG) (t : Nat) (y : Nat) : Prop := (σ 17 t ≤ nI y ∧ nI y ≤ σ 18 t) ∧ ¬ σ 12 (40 * (σ 16 t).toNatClampNeg + y) = 0
noncomputable def q_survey (σ : SG) (x : Int32) : Int32 := iT (¬ (0 ≤ x ∧ x ≤ σ 14 0 - 1)) 1 (iT (¬ aN (z_sure σ x.toNatClampNeg) 40) 2 0)
def u_survey (σ : SG) (x : Int32) : SG := up2 (up2 (up2 (up2 σ 49 0 0) 20 x.toNatClampNeg 1) 21 x.toNatClampNeg (σ 17 x.toNatClampNeg - 0)) 22 x.toNatClampNeg (σ 18 x.toNatClampNeg + 0)
theorem r_survey (R : RM A m S σ μ) (B : IB σ) (x : Int32) (post : Int32 → PT → Prop)
    (hx : ∀ S', ¬ q_survey σ x = 0 → RM A m S' (up2 σ 49 0 (q_survey σ x)) μ → post 0 S')
    (h : ∀ S', q_survey σ x = 0 → RM A m S' (u_survey σ x) μ → post (z_susN σ x.toNatClampNeg) S') : w_X9_survey m x S post := by
  have e : w_X9_survey m x S post = w_X9_survey_b96 m x post S (some m) (q_survey σ x) := by
    unfold w_X9_survey q_survey
    by_cases hv : 0 ≤ x ∧ x ≤ σ 14 0 - 1
    · obtain ⟨k, hk, rfl, hk2⟩ := vin_ex (th_in B hv)
      have g1 : vp_in (nI k) 30 := vin_nI hk (by decide)
      have g2 : (nI k).toNatClampNeg = k := qn_nat hk2
      obtain ⟨s, es, hs, hs2⟩ := IB_nI B 16 k rfl
      have hs : s ≤ 5 := by have : (s : Int) ≤ 5 := hs; omega
      have g3 : (nI s).toNatClampNeg = s := qn_nat hs2
      simp only [RM_all R, Option.some.injEq, exists_eq_left', true_and, and_true, isIn_eq, bI_0, Classical.not_not, bo_0, bo_1, bI_bo, forall_eq, r_isThing R, hv, and_self]
      rw [bI_T trivial, g2, show iT (¬ True) 1 (iT (¬ aN (z_sure σ k) 40) 2 0) = iT (¬ aN (z_sure σ k) 40) 2 (0 : Int32) from iT_F (fun h => h trivial)]
      refine loop_ex (N := 40) (i0 := 0) (fun i => bI (aN (z_sure σ k) i)) (fun n a v => w_X9_survey_l11 m (nI k) post n S 1 a v) _ (Nat.zero_le _) bI_a0 rfl (fun _ _ => rfl) (fun n => ?_) (fun n i _ hi => ?_)
      · show w_X9_survey_l11 m (nI k) post (n + 1) S 1 _ _ = _
        unfold w_X9_survey_l11 w_X9_survey_b78
        have c : (40 : Int32) ≤ nI 40 := by decide
        have c1 : ¬ (1 : Int32) = 0 := by decide
        simp only [RM_all R, Option.some.injEq, exists_eq_left', true_and, and_true, isIn_eq, bI_0, Classical.not_not, bo_0, bo_1, bI_bo, forall_eq, c, c1, br2, br2']
        ((try simp only [iT]) <;> (repeat' split) <;> first | rfl | grind | (exfalso; simp_all; done) | (simp_all; done) | (simp only [ile, ilt] at *; (repeat' split) <;> first | rfl | (exfalso; omega) | (exfalso; simp_all; done)))
      · show w_X9_survey_l11 m (nI k) post (n + 1) S 1 _ _ = w_X9_survey_l11 m (nI k) post n S 1 _ _
        conv => lhs; unfold w_X9_survey_l11
        unfold w_X9_survey_b66 w_X9_survey_b70 w_X9_survey_b71
        have c : ¬ (40 : Int32) ≤ nI i := by rw [show (40 : Int32) = nI 40 from rfl, qn_le (by omega) (by omega)]; omega
        have c1 : ¬ (1 : Int32) = 0 := by decide
        have c2 : vp_in (nI (40 * s + i)) 240 := vin_nI (by omega) (by decide)
        have c3 : (nI (40 * s + i)).toNatClampNeg = 40 * s + i := qn_nat (by omega)
        simp only [RM_all R, Option.some.injEq, exists_eq_left', true_and, and_true, isIn_eq, bI_0, Classical.not_not, bo_0, bo_1, bI_bo, forall_eq, c, c1, c2, c3, es, at_eq, g1, g2, br2, br2', aN_s, qn_s]
        simp only [z_sure, es, g3, bI]
        ((try simp only [iT]) <;> (repeat' split) <;> first | rfl | grind | (exfalso; simp_all; done) | (simp_all; done) | (simp only [ile, ilt] at *; (repeat' split) <;> first | rfl | (exfalso; omega) | (exfalso; simp_all; done)))
    · simp only [RM_all R, Option.some.injEq, exists_eq_left', true_and, and_true, isIn_eq, bI_0, Classical.not_not, bo_0, bo_1, bI_bo, forall_eq, r_isThing R, hv]
      rw [bI_F (fun h => h), show iT (¬ False) 1 (iT (¬ aN (z_sure σ x.toNatClampNeg) 40) 2 0) = (1 : Int32) from iT_T not_false]
      refine propext ⟨fun ⟨n, hn⟩ => ?_, fun hn => ⟨1, ?_⟩⟩
      · cases n with
        | zero => exact hn.elim
        | succ n =>
          unfold w_X9_survey_l11 w_X9_survey_b78 at hn
          have c : ¬ (40 : Int32) ≤ 0 := by decide
          exact (hn.2 c).1 rfl |>.2 rfl
      · unfold w_X9_survey_l11 w_X9_survey_b78
        have c : ¬ (40 : Int32) ≤ 0 := by decide
        exact ⟨fun h => absurd h c, fun _ => ⟨fun _ => ⟨fun h => absurd rfl h, fun _ => hn⟩, fun h => absurd rfl h⟩⟩
  rw [e]
  generalize hq : q_survey σ x = t at *
  unfold w_X9_survey_b96
  simp only [RM_all R, Option.some.injEq, exists_eq_left', true_and, and_true, isIn_eq, bI_0, Classical.not_not, bo_0, bo_1, bI_bo, up2_s, up2_f, ne_eq, Nat.reduceEqDiff, not_false_eq_true]
  refine r_goes R _ (fun S1 R1 => ⟨fun ht => ?_, fun ht => hx S1 (by rw [bI_0] at ht; exact ht) R1⟩)
  rw [bI_0, Classical.not_not] at ht
  subst ht
  obtain ⟨h1, hq2⟩ := q1 (by decide) hq
  rw [Classical.not_not] at h1
  obtain ⟨k, hk, rfl, hk2⟩ := vin_ex (th_in B h1)
  have g1 : vp_in (nI k) 30 := vin_nI hk (by decide)
  have g2 : (nI k).toNatClampNeg = k := qn_nat hk2
  simp only [RM_all R1, Option.some.injEq, exists_eq_left', true_and, and_true, isIn_eq, bI_0, Classical.not_not, bo_0, bo_1, bI_bo, up2_s, up2_f, ne_eq, Nat.reduceEqDiff, not_false_eq_true]
  rw [r_suspects R1 (len := z_len σ (σ 16 k).toNatClampNeg) (by simp only [up2_f, ne_eq, Nat.reduceEqDiff, not_false_eq_true]; exact IB_vin B 16 k 6 (by decide) (by decide)) hk (by simp only [up2_f, ne_eq, Nat.reduceEqDiff, not_false_eq_true]; exact (z_len_i B _).1) (z_len_i B _).2]
  simp only [RM_all R1, Option.some.injEq, exists_eq_left', true_and, and_true, isIn_eq, bI_0, Classical.not_not, bo_0, bo_1, bI_bo, up2_s, up2_f, ne_eq, Nat.reduceEqDiff, not_false_eq_true, g1, g2]
  refine r_records R1 g1 _ _ 0 (fun S2 R2 => ?_)
  rw [g2] at R2
  have := h S2 rfl
  unfold u_survey at this
  rw [g2] at this
  have h9 := this R2
  simp only [z_susN, z_len, z_susB, up2_f, ne_eq, Nat.reduceEqDiff, not_false_eq_true] at h9 ⊢
  exact h9
noncomputable def q_trial (σ : SG) (x y : Int32) : Int32 := iT (¬ z_mt σ x y) 1 0
def u_trial (σ : SG) (x y : Int32) : SG := up2 (up2 σ 49 0 0) 12 (40 * x.toNatClampNeg + y.toNatClampNeg) 1
theorem r_trial (R : RM A m S σ μ) (B : IB σ) {nT : Nat} (hn : σ 14 0 = nI nT) (hT : nT ≤ 30) (x y : Int32) (post : Int32 → PT → Prop)
    (hx : ∀ S', ¬ q_trial σ x y = 0 → RM A m S' (up2 σ 49 0 (q_trial σ x y)) μ → post 0 S')
    (h : ∀ S', q_trial σ x y = 0 → RM A m S' (u_trial σ x y) μ → post (nI (cN (fun t => z_lies σ t x y) nT)) S') : w_X9_trial m x y S post := by
  have e : w_X9_trial m x y S post = w_X9_trial_b15 m x y post S (some m) (q_trial σ x y) := by
    unfold w_X9_trial q_trial
    simp only [RM_all R, Option.some.injEq, exists_eq_left', true_and, and_true, isIn_eq, bI_0, Classical.not_not, bo_0, bo_1, bI_bo, forall_eq, r_mt R B, br2, br2']
    ((try simp only [iT]) <;> (repeat' split) <;> first | rfl | grind | (exfalso; simp_all; done) | (simp_all; done) | (simp only [ile, ilt] at *; (repeat' split) <;> first | rfl | (exfalso; omega) | (exfalso; simp_all; done)))
  rw [e]
  generalize hq : q_trial σ x y = t at *
  unfold w_X9_trial_b15
  simp only [RM_all R, Option.some.injEq, exists_eq_left', true_and, and_true, isIn_eq, bI_0, Classical.not_not, bo_0, bo_1, bI_bo, up2_s, up2_f, ne_eq, Nat.reduceEqDiff, not_false_eq_true]
  refine r_goes R _ (fun S1 R1 => ⟨fun ht => ?_, fun ht => hx S1 (by rw [bI_0] at ht; exact ht) R1⟩)
  rw [bI_0, Classical.not_not] at ht
  subst ht
  obtain ⟨h1, -⟩ := q1 (by decide) hq
  rw [Classical.not_not] at h1
  obtain ⟨a, b, rfl, rfl, ha, hb⟩ := mt_in B h1
  have c1 : vp_in (nI (40 * a + b)) 240 := vin_nI (by omega) (by decide)
  have c2 : (nI (40 * a + b)).toNatClampNeg = 40 * a + b := qn_nat (by omega)
  have c3 : (nI a).toNatClampNeg = a := qn_nat (by omega)
  have c4 : (nI b).toNatClampNeg = b := qn_nat (by omega)
  simp only [RM_all R1, Option.some.injEq, exists_eq_left', true_and, and_true, isIn_eq, bI_0, Classical.not_not, bo_0, bo_1, bI_bo, up2_s, up2_f, ne_eq, Nat.reduceEqDiff, not_false_eq_true, at_eq, c1, c2]
  refine RM_uA R1 rfl (by decide) (fun S2 R2 => ?_)
  have h9 := h S2 rfl (by unfold u_trial; rw [c3, c4]; exact R2)
  have hn2 : (up2 (up2 σ 49 0 0) 12 (40 * a + b) 1) 14 0 = nI nT := by simp only [up2_f, ne_eq, Nat.reduceEqDiff, not_false_eq_true]; exact hn
  refine (loop_ex (N := nT) (i0 := 0) (fun i => nI (cN (fun t => z_lies σ t (nI a) (nI b)) i)) (fun n c v => w_X9_trial_l40 m (nI a) (nI b) post n S2 c v) (post (nI (cN (fun t => z_lies σ t (nI a) (nI b)) nT)) S2) (Nat.zero_le _) rfl rfl (fun _ _ => rfl) (fun n => ?_) (fun n i _ hi => ?_)).mpr h9
  · show w_X9_trial_l40 m (nI a) (nI b) post (n + 1) S2 _ _ = _
    unfold w_X9_trial_l40
    have c : nI nT ≤ nI nT := by rw [qn_le (by omega) (by omega)]; omega
    simp only [RM_all R2, Option.some.injEq, exists_eq_left', true_and, and_true, isIn_eq, bI_0, Classical.not_not, bo_0, bo_1, bI_bo, forall_eq, hn2, c]
    simp
  · show w_X9_trial_l40 m (nI a) (nI b) post (n + 1) S2 _ _ = w_X9_trial_l40 m (nI a) (nI b) post n S2 _ _
    conv => lhs; unfold w_X9_trial_l40
    unfold w_X9_trial_b66
    have c : ¬ nI nT ≤ nI i := by rw [qn_le (by omega) (by omega)]; omega
    simp only [RM_all R2, Option.some.injEq, exists_eq_left', true_and, and_true, isIn_eq, bI_0, Classical.not_not, bo_0, bo_1, bI_bo, forall_eq, hn2, c, r_lies R2 (show i < 30 by omega), br2, br2', cN_s, qn_s, q_add0]
    simp only [z_lies, up2_f, ne_eq, Nat.reduceEqDiff, not_false_eq_true]
    ((try simp only [iT]) <;> (repeat' split) <;> first | rfl | grind | (exfalso; simp_all; done) | (simp_all; done) | (simp only [ile, ilt] at *; (repeat' split) <;> first | rfl | (exfalso; omega) | (exfalso; simp_all; done)))
end Q
