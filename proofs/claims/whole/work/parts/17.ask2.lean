/-! who takes a street, who is liable -/
def z_taken (σ : SG) (s : Int32) (nW : Nat) : Prop := aN (fun k => σ 25 k = s ∧ z_takes σ k) nW
def z_share (σ : SG) (j : Nat) (nW : Nat) : Prop := aN (fun k => ¬ σ 39 (24 * j + k) = 0 ∧ σ 25 k = σ 25 j ∧ z_takes σ k) nW
def z_deep (σ : SG) (q d : Int32) (k : Nat) : Prop := σ 41 k = q ∧ d ≤ σ 28 (σ 42 k).toNatClampNeg
def z_old (σ : SG) (k : Nat) : Prop := ¬ z_today σ - σ 43 k ≤ iT (σ 28 (σ 42 k).toNatClampNeg < 120) 200 300
/-- what the one who is asked for answers, found in the k-th row -/
noncomputable def z_by (σ : SG) (s : Nat) (d : Int32) (f : Int32) : Int32 :=
  iT (f = -1) (-1) (iT (z_old σ f.toNatClampNeg ∨ (¬ 10 ≤ d ∧ ¬ σ 7 s ≤ f)) (-1) (σ 42 f.toNatClampNeg))
noncomputable def z_liab (σ : SG) (s : Nat) (q d : Int32) (nF : Nat) : Int32 := z_by σ s d (laN (z_deep σ q d) nF)
theorem laN_s (P : Nat → Prop) (n : Nat) : laN P (n + 1) = iT (P n) (nI n) (laN P n) := rfl
section Q
variable {A : Nat → Nat} {m : Nat} {S : PT} {σ : SG} {μ : MU}
theorem q_le0 {n : Nat} (h : n < 1000000) : (nI n ≤ 0) = (n = 0) := by
  rw [show (0 : Int32) = nI 0 from rfl, qn_le (by omega) (by omega)]; exact propext (by omega)
theorem opens_le (σ : SG) (x : Int32) : z_opens σ x ≤ 240 := cN_le _ _
theorem r_takes (R : RM A m S σ μ) {k : Nat} (hk : k < 24) (post : Int32 → PT → Prop) : w_X9_takes m (nI k) S post = post (bI (z_takes σ k)) S := by
  have g1 : vp_in (nI k) 24 := vin_nI hk (by decide)
  have g2 : (nI k).toNatClampNeg = k := qn_nat (by omega)
  have g3 : (nI (z_opens σ (nI k)) ≤ 0) = (z_opens σ (nI k) = 0) := q_le0 (by have := opens_le σ (nI k); omega)
  unfold w_X9_takes w_X9_takes_b31 w_X9_takes_b32
  simp only [RM_all R, Option.some.injEq, exists_eq_left', true_and, and_true, isIn_eq, bI_0, Classical.not_not, bo_0, bo_1, bI_bo, forall_eq, g1, g2, g3, r_openOf R, br2, br2']
  simp only [bI, z_takes]
  ((try simp only [iT]) <;> (repeat' split) <;> first | rfl | grind | (exfalso; simp_all; done) | (simp_all; done) | (simp only [ile, ilt] at *; (repeat' split) <;> first | rfl | (exfalso; omega) | (exfalso; simp_all; done)))
theorem r_isTaken (R : RM A m S σ μ) {nW : Nat} (hn : σ 23 0 = nI nW) (hW : nW ≤ 24) (s : Int32) (post : Int32 → PT → Prop) : w_X9_isTaken m s S post = post (bI (z_taken σ s nW)) S := by
  unfold w_X9_isTaken z_taken
  refine loop_ex (N := nW) (i0 := 0) (fun i => bI (aN (fun k => σ 25 k = s ∧ z_takes σ k) i)) (fun n a v => w_X9_isTaken_l4 m s post n S a v) _ (Nat.zero_le _) bI_a0 rfl (fun _ _ => rfl) (fun n => ?_) (fun n i _ hi => ?_)
  · show w_X9_isTaken_l4 m s post (n + 1) S _ _ = _
    unfold w_X9_isTaken_l4
    have c : nI nW ≤ nI nW := by rw [qn_le (by omega) (by omega)]; omega
    simp only [RM_all R, Option.some.injEq, exists_eq_left', true_and, and_true, isIn_eq, bI_0, Classical.not_not, bo_0, bo_1, bI_bo, forall_eq, hn, c]
    simp
  · show w_X9_isTaken_l4 m s post (n + 1) S _ _ = w_X9_isTaken_l4 m s post n S _ _
    conv => lhs; unfold w_X9_isTaken_l4
    unfold w_X9_isTaken_b34 w_X9_isTaken_b38 w_X9_isTaken_b39
    have c : ¬ nI nW ≤ nI i := by rw [qn_le (by omega) (by omega)]; omega
    have c1 : vp_in (nI i) 24 := vin_nI (by omega) (by decide)
    have c2 : (nI i).toNatClampNeg = i := qn_nat (by omega)
    simp only [RM_all R, Option.some.injEq, exists_eq_left', true_and, and_true, isIn_eq, bI_0, Classical.not_not, bo_0, bo_1, bI_bo, forall_eq, hn, c, c1, c2, r_takes R (show i < 24 by omega), br2, br2', aN_s, qn_s]
    simp only [bI]
    ((try simp only [iT]) <;> (repeat' split) <;> first | rfl | grind | (exfalso; simp_all; done) | (simp_all; done) | (simp only [ile, ilt] at *; (repeat' split) <;> first | rfl | (exfalso; omega) | (exfalso; simp_all; done)))
theorem r_shares (R : RM A m S σ μ) {nW j : Nat} (hj : j < 24) (hn : σ 23 0 = nI nW) (hW : nW ≤ 24) (post : Int32 → PT → Prop) : w_X9_shares m (nI j) S post = post (bI (z_share σ j nW)) S := by
  have g1 : vp_in (nI j) 24 := vin_nI hj (by decide)
  have g2 : (nI j).toNatClampNeg = j := qn_nat (by omega)
  unfold w_X9_shares z_share
  refine loop_ex (N := nW) (i0 := 0) (fun i => bI (aN (fun k => ¬ σ 39 (24 * j + k) = 0 ∧ σ 25 k = σ 25 j ∧ z_takes σ k) i)) (fun n a v => w_X9_shares_l4 m (nI j) post n S a v) _ (Nat.zero_le _) bI_a0 rfl (fun _ _ => rfl) (fun n => ?_) (fun n i _ hi => ?_)
  · show w_X9_shares_l4 m (nI j) post (n + 1) S _ _ = _
    unfold w_X9_shares_l4
    have c : nI nW ≤ nI nW := by rw [qn_le (by omega) (by omega)]; omega
    simp only [RM_all R, Option.some.injEq, exists_eq_left', true_and, and_true, isIn_eq, bI_0, Classical.not_not, bo_0, bo_1, bI_bo, forall_eq, hn, c]
    simp
  · show w_X9_shares_l4 m (nI j) post (n + 1) S _ _ = w_X9_shares_l4 m (nI j) post n S _ _
    conv => lhs; unfold w_X9_shares_l4
    unfold w_X9_shares_b53 w_X9_shares_b57 w_X9_shares_b58
    have c : ¬ nI nW ≤ nI i := by rw [qn_le (by omega) (by omega)]; omega
    have c1 : vp_in (nI i) 24 := vin_nI (by omega) (by decide)
    have c2 : (nI i).toNatClampNeg = i := qn_nat (by omega)
    have e0 : (24 : Int32) * nI j + nI i = nI (24 * j + i) := by rw [qn_lit24, qn_mul, qn_add]
    have e1 : vp_in (nI (24 * j + i)) 576 := vin_nI (by omega) (by decide)
    have e2 : (nI (24 * j + i)).toNatClampNeg = 24 * j + i := qn_nat (by omega)
    simp only [RM_all R, Option.some.injEq, exists_eq_left', true_and, and_true, isIn_eq, bI_0, Classical.not_not, bo_0, bo_1, bI_bo, forall_eq, hn, c, c1, c2, g1, g2, e0, e1, e2, r_takes R (show i < 24 by omega), br2, br2', aN_s, qn_s]
    simp only [bI]
    ((try simp only [iT]) <;> (repeat' split) <;> first | rfl | grind | (exfalso; simp_all; done) | (simp_all; done) | (simp only [ile, ilt] at *; (repeat' split) <;> first | rfl | (exfalso; omega) | (exfalso; simp_all; done)))
theorem r_grade (R : RM A m S σ μ) (B : IB σ) {j : Nat} (hj : j < 24) (post : Int32 → PT → Prop) : w_X9_grade m (nI j) S post = post (4 - σ 3 (σ 25 j).toNatClampNeg) S := by
  have g1 : vp_in (nI j) 24 := vin_nI hj (by decide)
  have g2 : (nI j).toNatClampNeg = j := qn_nat (by omega)
  have e1 : vp_in (σ 25 j) 6 := IB_vin B 25 j 6 (by decide) (by decide)
  unfold w_X9_grade
  simp only [RM_all R, Option.some.injEq, exists_eq_left', true_and, and_true, isIn_eq, bI_0, Classical.not_not, bo_0, bo_1, bI_bo, forall_eq, g1, g2, e1]
theorem r_latest (R : RM A m S σ μ) {nF : Nat} (hn : σ 40 0 = nI nF) (hF : nF ≤ 1024) (x : Int32) (post : Int32 → PT → Prop) : w_X9_latest m x S post = post (laN (fun k => σ 41 k = x) nF) S := by
  unfold w_X9_latest
  refine loop_ex (N := nF) (i0 := 0) (fun i => laN (fun k => σ 41 k = x) i) (fun n a v => w_X9_latest_l4 m x post n S a v) _ (Nat.zero_le _) rfl rfl (fun _ _ => rfl) (fun n => ?_) (fun n i _ hi => ?_)
  · show w_X9_latest_l4 m x post (n + 1) S _ _ = _
    unfold w_X9_latest_l4
    have c : nI nF ≤ nI nF := by rw [qn_le (by omega) (by omega)]; omega
    simp only [RM_all R, Option.some.injEq, exists_eq_left', true_and, and_true, isIn_eq, bI_0, Classical.not_not, bo_0, bo_1, bI_bo, forall_eq, hn, c]
    simp
  · show w_X9_latest_l4 m x post (n + 1) S _ _ = w_X9_latest_l4 m x post n S _ _
    conv => lhs; unfold w_X9_latest_l4
    unfold w_X9_latest_b27
    have c : ¬ nI nF ≤ nI i := by rw [qn_le (by omega) (by omega)]; omega
    have c1 : vp_in (nI i) 1024 := vin_nI (by omega) (by decide)
    have c2 : (nI i).toNatClampNeg = i := qn_nat (by omega)
    simp only [RM_all R, Option.some.injEq, exists_eq_left', true_and, and_true, isIn_eq, bI_0, Classical.not_not, bo_0, bo_1, bI_bo, forall_eq, hn, c, c1, c2, br2, br2', laN_s, qn_s]
    ((try simp only [iT]) <;> (repeat' split) <;> first | rfl | grind | (exfalso; simp_all; done) | (simp_all; done) | (simp only [ile, ilt] at *; (repeat' split) <;> first | rfl | (exfalso; omega) | (exfalso; simp_all; done)))
theorem r_liableFor (R : RM A m S σ μ) (B : IB σ) {nF s : Nat} (hs : s < 6) (hn : σ 40 0 = nI nF) (hF : nF ≤ 1024) (y d : Int32) (post : Int32 → PT → Prop) : w_X9_liableFor m (nI s) y d S post = post (z_liab σ s (40 * nI s + y) d nF) S := by
  have g1 : vp_in (nI s) 6 := vin_nI hs (by decide)
  have g2 : (nI s).toNatClampNeg = s := qn_nat (by omega)
  have e1 : ∀ k, vp_in (σ 42 k) 24 := fun k => IB_vin B 42 k 24 (by decide) (by decide)
  unfold w_X9_liableFor z_liab
  refine loop_ex (N := nF) (i0 := 0) (fun i => laN (z_deep σ (40 * nI s + y) d) i) (fun n a v => w_X9_liableFor_l6 m (nI s) y d post n S a v) _ (Nat.zero_le _) rfl rfl (fun _ _ => rfl) (fun n => ?_) (fun n i _ hi => ?_)
  · show w_X9_liableFor_l6 m (nI s) y d post (n + 1) S _ _ = _
    unfold w_X9_liableFor_l6 w_X9_liableFor_b112 w_X9_liableFor_b120 w_X9_liableFor_b143 w_X9_liableFor_b144 w_X9_liableFor_b156 w_X9_liableFor_b162
    have c : nI nF ≤ nI nF := by rw [qn_le (by omega) (by omega)]; omega
    rcases laN_in (z_deep σ (40 * nI s + y) d) nF with h | ⟨k, hk, -, h⟩
    · rw [h]
      simp only [RM_all R, Option.some.injEq, exists_eq_left', true_and, and_true, isIn_eq, bI_0, Classical.not_not, bo_0, bo_1, bI_bo, forall_eq, hn, c]
      unfold z_by
      rw [iT_T rfl]
      simp
    · have c1 : vp_in (nI k) 1024 := vin_nI (by omega) (by decide)
      have c2 : (nI k).toNatClampNeg = k := qn_nat (by omega)
      have c3 : ¬ nI k = -1 := by rw [ieq, nI_toInt (by omega), show (-1 : Int32).toInt = -1 from by decide]; omega
      rw [h]
      simp only [RM_all R, Option.some.injEq, exists_eq_left', true_and, and_true, isIn_eq, bI_0, Classical.not_not, bo_0, bo_1, bI_bo, forall_eq, hn, c, c1, c2, c3, e1, g1, g2, r_today R, br2, br2']
      simp only [z_by, z_old, c2]
      ((try simp only [iT]) <;> (repeat' split) <;> first | rfl | grind | (exfalso; simp_all; done) | (simp_all; done) | (simp only [ile, ilt] at *; (repeat' split) <;> first | rfl | (exfalso; omega) | (exfalso; simp_all; done)))
  · show w_X9_liableFor_l6 m (nI s) y d post (n + 1) S _ _ = w_X9_liableFor_l6 m (nI s) y d post n S _ _
    conv => lhs; unfold w_X9_liableFor_l6
    unfold w_X9_liableFor_b52 w_X9_liableFor_b54
    have c : ¬ nI nF ≤ nI i := by rw [qn_le (by omega) (by omega)]; omega
    have c1 : vp_in (nI i) 1024 := vin_nI (by omega) (by decide)
    have c2 : (nI i).toNatClampNeg = i := qn_nat (by omega)
    simp only [RM_all R, Option.some.injEq, exists_eq_left', true_and, and_true, isIn_eq, bI_0, Classical.not_not, bo_0, bo_1, bI_bo, forall_eq, hn, c, c1, c2, e1, br2, br2', laN_s, qn_s]
    simp only [z_deep, ← not_lt32]
    ((try simp only [iT]) <;> (repeat' split) <;> first | rfl | grind | (exfalso; simp_all; done) | (simp_all; done) | (simp only [ile, ilt] at *; (repeat' split) <;> first | rfl | (exfalso; omega) | (exfalso; simp_all; done)))
end Q
