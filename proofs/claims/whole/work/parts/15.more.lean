/-! the rest of the reference's questions -/
noncomputable def z_bars (σ : SG) (j nW : Nat) : Int32 :=
  iT (σ 29 j = 3) 0
  (iT (¬ σ 8 (σ 25 j).toNatClampNeg = -1 ∧ z_has σ j (σ 8 (σ 25 j).toNatClampNeg) (σ 9 (σ 25 j).toNatClampNeg)) 1
  (iT (¬ σ 6 (σ 25 j).toNatClampNeg = -1 ∧ σ 38 j = 0 ∧ z_has σ j (σ 6 (σ 25 j).toNatClampNeg) (σ 6 (σ 25 j).toNatClampNeg + 99)) 2
  (iT (z_met σ j nW) 3 0)))
noncomputable def z_note (k g : Int32) : Int32 := iT (2 ≤ g) (iT (k = 0) 20 (iT (k = 1) 8 (iT (k = 2) 3 0))) (2 * iT (k = 0) 20 (iT (k = 1) 8 (iT (k = 2) 3 0)))
def z_susB (σ : SG) (t : Nat) (s y : Int32) : Prop := ¬ σ 20 t = 0 ∧ σ 16 t = s ∧ σ 21 t ≤ y ∧ y ≤ σ 22 t
def z_lies (σ : SG) (t : Nat) (s y : Int32) : Prop := σ 16 t = s ∧ σ 17 t ≤ y ∧ y ≤ σ 18 t
noncomputable def z_opens (σ : SG) (x : Int32) : Nat := cN (fun q => σ 13 q = x) 240
def z_takes (σ : SG) (k : Nat) : Prop := σ 33 k = 3 ∧ σ 37 k = 0 ∧ ¬ z_opens σ (nI k) = 0
/-- the last of those below n that is so; -1: none -/
noncomputable def laN (P : Nat → Prop) : Nat → Int32
  | 0 => -1
  | n + 1 => iT (P n) (nI n) (laN P n)
theorem laN_in (P : Nat → Prop) : ∀ n, laN P n = -1 ∨ ∃ k, k < n ∧ P k ∧ laN P n = nI k
  | 0 => Or.inl rfl
  | n + 1 => by
    unfold laN
    by_cases e : P n
    · rw [iT_T e]; exact Or.inr ⟨n, by omega, e, rfl⟩
    · rw [iT_F e]
      rcases laN_in P n with h | ⟨k, hk, h⟩
      · exact Or.inl h
      · exact Or.inr ⟨k, by omega, h⟩
section Q
variable {A : Nat → Nat} {m : Nat} {S : PT} {σ : SG} {μ : MU}
theorem r_isMetre (R : RM A m S σ μ) (B : IB σ) (x1 x2 : Int32) (post : Int32 → PT → Prop) : w_X9_isMetre m x1 x2 S post = post (bI ((0 ≤ x1 ∧ x1 ≤ σ 1 0 - 1) ∧ 0 ≤ x2 ∧ x2 ≤ σ 2 x1.toNatClampNeg - 1)) S := by
  unfold w_X9_isMetre w_X9_isMetre_b28 w_X9_isMetre_b29
  by_cases h : 0 ≤ x1 ∧ x1 ≤ σ 1 0 - 1
  · have h1 : vp_in x1 6 := by
      have a1 := h.1; have a2 := h.2; have a3 := B 1 0; have a4 := Ihi x1
      rw [ile, I0] at a1
      rw [ile, tsub] at a2
      simp only [bl, bh] at a3
      rw [show (1 : Int32).toInt = 1 from by decide] at a2
      unfold vp_in Int32.toNatClampNeg
      rw [ilt, I0]; simp at a3; omega
    simp only [RM_all R, Option.some.injEq, exists_eq_left', true_and, and_true, isIn_eq, bI_0, Classical.not_not, bo_0, bo_1, bI_bo, forall_eq, r_isStreet R, h1, h, br2, br2']
    simp only [bI]
    ((try simp only [iT]) <;> (repeat' split) <;> first | rfl | grind | (exfalso; simp_all; done) | (simp_all; done) | (simp only [ile, ilt] at *; (repeat' split) <;> first | rfl | (exfalso; omega) | (exfalso; simp_all; done)))
  · simp only [RM_all R, Option.some.injEq, exists_eq_left', true_and, and_true, isIn_eq, bI_0, Classical.not_not, bo_0, bo_1, bI_bo, forall_eq, r_isStreet R, h, br2, br2']
    rw [iT_T not_false]
    simp only [bI, false_and]
    rw [iT_F (fun h => h)]
theorem r_barsOf (R : RM A m S σ μ) (B : IB σ) {j nW : Nat} (hj : j < 24) (hn : σ 23 0 = nI nW) (hW : nW ≤ 24) (post : Int32 → PT → Prop) : w_X9_barsOf m (nI j) S post = post (z_bars σ j nW) S := by
  have g1 : vp_in (nI j) 24 := vin_nI hj (by decide)
  have g2 : (nI j).toNatClampNeg = j := qn_nat (by omega)
  have e1 : vp_in (σ 25 j) 6 := IB_vin B 25 j 6 (by decide) (by decide)
  unfold w_X9_barsOf w_X9_barsOf_b53 w_X9_barsOf_b54 w_X9_barsOf_b101 w_X9_barsOf_b102 w_X9_barsOf_b134
  simp only [RM_all R, Option.some.injEq, exists_eq_left', true_and, and_true, isIn_eq, bI_0, Classical.not_not, bo_0, bo_1, bI_bo, forall_eq, g1, g2, e1, r_hasDay R hj, r_meetsOn R B hj hn hW, br2, br2']
  unfold z_bars
  ((try simp only [iT]) <;> (repeat' split) <;> first | rfl | grind | (exfalso; simp_all; done) | (simp_all; done) | (simp only [ile, ilt] at *; (repeat' split) <;> first | rfl | (exfalso; omega) | (exfalso; simp_all; done)))
theorem r_notice (x0 x1 : Int32) (post : Int32 → PT → Prop) : w_X9_notice x0 x1 S post = post (z_note x0 x1) S := by
  unfold w_X9_notice w_X9_notice_b29 w_X9_notice_b42
  simp only [br2, br2']
  unfold z_note
  ((try simp only [iT]) <;> (repeat' split) <;> first | rfl | grind | (exfalso; simp_all; done) | (simp_all; done) | (simp only [ile, ilt] at *; (repeat' split) <;> first | rfl | (exfalso; omega) | (exfalso; simp_all; done)))
theorem r_isSuspectBy (R : RM A m S σ μ) {t : Nat} (ht : t < 30) (s y : Int32) (post : Int32 → PT → Prop) : w_X9_isSuspectBy m (nI t) s y S post = post (bI (z_susB σ t s y)) S := by
  have g1 : vp_in (nI t) 30 := vin_nI ht (by decide)
  have g2 : (nI t).toNatClampNeg = t := qn_nat (by omega)
  unfold w_X9_isSuspectBy w_X9_isSuspectBy_b42 w_X9_isSuspectBy_b43
  simp only [RM_all R, Option.some.injEq, exists_eq_left', true_and, and_true, isIn_eq, bI_0, Classical.not_not, bo_0, bo_1, bI_bo, forall_eq, g1, g2, br2, br2']
  simp only [bI, z_susB]
  ((try simp only [iT]) <;> (repeat' split) <;> first | rfl | grind | (exfalso; simp_all; done) | (simp_all; done) | (simp only [ile, ilt] at *; (repeat' split) <;> first | rfl | (exfalso; omega) | (exfalso; simp_all; done)))
theorem r_lies (R : RM A m S σ μ) {t : Nat} (ht : t < 30) (s y : Int32) (post : Int32 → PT → Prop) : w_X9_lies m (nI t) s y S post = post (bI (z_lies σ t s y)) S := by
  have g1 : vp_in (nI t) 30 := vin_nI ht (by decide)
  have g2 : (nI t).toNatClampNeg = t := qn_nat (by omega)
  unfold w_X9_lies w_X9_lies_b33 w_X9_lies_b34
  simp only [RM_all R, Option.some.injEq, exists_eq_left', true_and, and_true, isIn_eq, bI_0, Classical.not_not, bo_0, bo_1, bI_bo, forall_eq, g1, g2, br2, br2']
  simp only [bI, z_lies]
  ((try simp only [iT]) <;> (repeat' split) <;> first | rfl | grind | (exfalso; simp_all; done) | (simp_all; done) | (simp only [ile, ilt] at *; (repeat' split) <;> first | rfl | (exfalso; omega) | (exfalso; simp_all; done)))
theorem r_suspects (R : RM A m S σ μ) {t len : Nat} (e1 : vp_in (σ 16 t) 6) (ht : t < 30) (hl : σ 2 (σ 16 t).toNatClampNeg = nI len) (h40 : len ≤ 40) (post : Int32 → PT → Prop) : w_X9_suspects m (nI t) S post = post (nI (cN (fun y => z_susB σ t (σ 16 t) (nI y)) len)) S := by
  have g1 : vp_in (nI t) 30 := vin_nI ht (by decide)
  have g2 : (nI t).toNatClampNeg = t := qn_nat (by omega)
  unfold w_X9_suspects
  refine loop_ex (N := len) (i0 := 0) (fun i => nI (cN (fun y => z_susB σ t (σ 16 t) (nI y)) i)) (fun n a v => w_X9_suspects_l4 m (nI t) post n S a v) _ (Nat.zero_le _) rfl rfl (fun _ _ => rfl) (fun n => ?_) (fun n i _ hi => ?_)
  · show w_X9_suspects_l4 m (nI t) post (n + 1) S _ _ = _
    unfold w_X9_suspects_l4
    have c : nI len ≤ nI len := by rw [qn_le (by omega) (by omega)]; omega
    simp only [RM_all R, Option.some.injEq, exists_eq_left', true_and, and_true, isIn_eq, bI_0, Classical.not_not, bo_0, bo_1, bI_bo, forall_eq, g1, g2, e1, hl, c]
    simp
  · show w_X9_suspects_l4 m (nI t) post (n + 1) S _ _ = w_X9_suspects_l4 m (nI t) post n S _ _
    conv => lhs; unfold w_X9_suspects_l4
    unfold w_X9_suspects_b40
    have c : ¬ nI len ≤ nI i := by rw [qn_le (by omega) (by omega)]; omega
    simp only [RM_all R, Option.some.injEq, exists_eq_left', true_and, and_true, isIn_eq, bI_0, Classical.not_not, bo_0, bo_1, bI_bo, forall_eq, g1, g2, e1, hl, c, r_isSuspectBy R ht, br2, br2', cN_s, qn_s, q_add0]
    ((try simp only [iT]) <;> (repeat' split) <;> first | rfl | grind | (exfalso; simp_all; done) | (simp_all; done) | (simp only [ile, ilt] at *; (repeat' split) <;> first | rfl | (exfalso; omega) | (exfalso; simp_all; done)))
theorem r_isSuspect (R : RM A m S σ μ) {nT : Nat} (hn : σ 14 0 = nI nT) (hT : nT ≤ 30) (s y : Int32) (post : Int32 → PT → Prop) : w_X9_isSuspect m s y S post = post (bI (aN (fun t => z_susB σ t s y) nT)) S := by
  unfold w_X9_isSuspect
  refine loop_ex (N := nT) (i0 := 0) (fun i => bI (aN (fun t => z_susB σ t s y) i)) (fun n a v => w_X9_isSuspect_l5 m s y post n S a v) _ (Nat.zero_le _) bI_a0 rfl (fun _ _ => rfl) (fun n => ?_) (fun n i _ hi => ?_)
  · show w_X9_isSuspect_l5 m s y post (n + 1) S _ _ = _
    unfold w_X9_isSuspect_l5
    have c : nI nT ≤ nI nT := by rw [qn_le (by omega) (by omega)]; omega
    simp only [RM_all R, Option.some.injEq, exists_eq_left', true_and, and_true, isIn_eq, bI_0, Classical.not_not, bo_0, bo_1, bI_bo, forall_eq, hn, c]
    simp
  · show w_X9_isSuspect_l5 m s y post (n + 1) S _ _ = w_X9_isSuspect_l5 m s y post n S _ _
    conv => lhs; unfold w_X9_isSuspect_l5
    unfold w_X9_isSuspect_b29 w_X9_isSuspect_b34
    have c : ¬ nI nT ≤ nI i := by rw [qn_le (by omega) (by omega)]; omega
    simp only [RM_all R, Option.some.injEq, exists_eq_left', true_and, and_true, isIn_eq, bI_0, Classical.not_not, bo_0, bo_1, bI_bo, forall_eq, hn, c, r_isSuspectBy R (show i < 30 by omega), br2, br2', aN_s, qn_s]
    simp only [bI]
    ((try simp only [iT]) <;> (repeat' split) <;> first | rfl | grind | (exfalso; simp_all; done) | (simp_all; done) | (simp only [ile, ilt] at *; (repeat' split) <;> first | rfl | (exfalso; omega) | (exfalso; simp_all; done)))
theorem r_openIn (R : RM A m S σ μ) {s : Nat} (hs : s < 6) (post : Int32 → PT → Prop) : w_X9_openIn m (nI s) S post = post (nI (cN (fun i => ¬ σ 13 (40 * s + i) = -1) 40)) S := by
  unfold w_X9_openIn
  have e0 : (40 : Int32) * nI s = nI (40 * s) := by rw [qn_lit40, qn_mul]
  have e1 : nI (40 * s) + 40 = nI (40 * s + 40) := by rw [qn_lit40, qn_add]
  refine (loop_ex (N := 40 * s + 40) (i0 := 40 * s) (fun i => nI (cN (fun i => ¬ σ 13 (40 * s + i) = -1) (i - 40 * s))) (fun n a v => w_X9_openIn_l7 m (nI s) post n S a v) (post (nI (cN (fun i => ¬ σ 13 (40 * s + i) = -1) 40)) S) (by omega) (by rw [Nat.sub_self]; rfl) e0 (fun _ _ => rfl) (fun n => ?_) (fun n i h1 hi => ?_))
  · show w_X9_openIn_l7 m (nI s) post (n + 1) S _ _ = _
    unfold w_X9_openIn_l7
    have c : nI (40 * s + 40) ≤ nI (40 * s + 40) := by rw [qn_le (by omega) (by omega)]; omega
    rw [show 40 * s + 40 - 40 * s = 40 by omega]
    simp only [RM_all R, Option.some.injEq, exists_eq_left', true_and, and_true, isIn_eq, bI_0, Classical.not_not, bo_0, bo_1, bI_bo, forall_eq, e0, e1, c]
    simp
  · show w_X9_openIn_l7 m (nI s) post (n + 1) S _ _ = w_X9_openIn_l7 m (nI s) post n S _ _
    conv => lhs; unfold w_X9_openIn_l7
    unfold w_X9_openIn_b34
    have c : ¬ nI (40 * s + 40) ≤ nI i := by rw [qn_le (by omega) (by omega)]; omega
    have c1 : vp_in (nI i) 240 := vin_nI (by omega) (by decide)
    have c2 : (nI i).toNatClampNeg = i := qn_nat (by omega)
    have c3 : 40 * s + (i - 40 * s) = i := by omega
    rw [show i + 1 - 40 * s = (i - 40 * s) + 1 by omega]
    simp only [RM_all R, Option.some.injEq, exists_eq_left', true_and, and_true, isIn_eq, bI_0, Classical.not_not, bo_0, bo_1, bI_bo, forall_eq, e0, e1, c, c1, c2, c3, br2, br2', cN_s, qn_s, q_add0]
    ((try simp only [iT]) <;> (repeat' split) <;> first | rfl | grind | (exfalso; simp_all; done) | (simp_all; done) | (simp only [ile, ilt] at *; (repeat' split) <;> first | rfl | (exfalso; omega) | (exfalso; simp_all; done)))
theorem r_openOf (R : RM A m S σ μ) (x : Int32) (post : Int32 → PT → Prop) : w_X9_openOf m x S post = post (nI (z_opens σ x)) S := by
  unfold w_X9_openOf z_opens
  refine loop_ex (N := 240) (i0 := 0) (fun i => nI (cN (fun q => σ 13 q = x) i)) (fun n a v => w_X9_openOf_l4 m x post n S a v) _ (Nat.zero_le _) rfl rfl (fun _ _ => rfl) (fun n => ?_) (fun n i _ hi => ?_)
  · show w_X9_openOf_l4 m x post (n + 1) S _ _ = _
    unfold w_X9_openOf_l4
    have c : (240 : Int32) ≤ nI 240 := by decide
    simp only [RM_all R, Option.some.injEq, exists_eq_left', true_and, and_true, isIn_eq, bI_0, Classical.not_not, bo_0, bo_1, bI_bo, forall_eq, c]
    simp
  · show w_X9_openOf_l4 m x post (n + 1) S _ _ = w_X9_openOf_l4 m x post n S _ _
    conv => lhs; unfold w_X9_openOf_l4
    unfold w_X9_openOf_b27
    have c : ¬ (240 : Int32) ≤ nI i := by rw [show (240 : Int32) = nI 240 from rfl, qn_le (by omega) (by omega)]; omega
    have c1 : vp_in (nI i) 240 := vin_nI (by omega) (by decide)
    have c2 : (nI i).toNatClampNeg = i := qn_nat (by omega)
    simp only [RM_all R, Option.some.injEq, exists_eq_left', true_and, and_true, isIn_eq, bI_0, Classical.not_not, bo_0, bo_1, bI_bo, forall_eq, c, c1, c2, br2, br2', cN_s, qn_s, q_add0]
    ((try simp only [iT]) <;> (repeat' split) <;> first | rfl | grind | (exfalso; simp_all; done) | (simp_all; done) | (simp only [ile, ilt] at *; (repeat' split) <;> first | rfl | (exfalso; omega) | (exfalso; simp_all; done)))
theorem r_fillsOf (R : RM A m S σ μ) {nF : Nat} (hn : σ 40 0 = nI nF) (hF : nF ≤ 1024) (x : Int32) (post : Int32 → PT → Prop) : w_X9_fillsOf m x S post = post (nI (cN (fun k => σ 41 k = x) nF)) S := by
  unfold w_X9_fillsOf
  refine loop_ex (N := nF) (i0 := 0) (fun i => nI (cN (fun k => σ 41 k = x) i)) (fun n a v => w_X9_fillsOf_l4 m x post n S a v) _ (Nat.zero_le _) rfl rfl (fun _ _ => rfl) (fun n => ?_) (fun n i _ hi => ?_)
  · show w_X9_fillsOf_l4 m x post (n + 1) S _ _ = _
    unfold w_X9_fillsOf_l4
    have c : nI nF ≤ nI nF := by rw [qn_le (by omega) (by omega)]; omega
    simp only [RM_all R, Option.some.injEq, exists_eq_left', true_and, and_true, isIn_eq, bI_0, Classical.not_not, bo_0, bo_1, bI_bo, forall_eq, hn, c]
    simp
  · show w_X9_fillsOf_l4 m x post (n + 1) S _ _ = w_X9_fillsOf_l4 m x post n S _ _
    conv => lhs; unfold w_X9_fillsOf_l4
    unfold w_X9_fillsOf_b28
    have c : ¬ nI nF ≤ nI i := by rw [qn_le (by omega) (by omega)]; omega
    have c1 : vp_in (nI i) 1024 := vin_nI (by omega) (by decide)
    have c2 : (nI i).toNatClampNeg = i := qn_nat (by omega)
    simp only [RM_all R, Option.some.injEq, exists_eq_left', true_and, and_true, isIn_eq, bI_0, Classical.not_not, bo_0, bo_1, bI_bo, forall_eq, hn, c, c1, c2, br2, br2', cN_s, qn_s, q_add0]
    ((try simp only [iT]) <;> (repeat' split) <;> first | rfl | grind | (exfalso; simp_all; done) | (simp_all; done) | (simp only [ile, ilt] at *; (repeat' split) <;> first | rfl | (exfalso; omega) | (exfalso; simp_all; done)))
end Q
