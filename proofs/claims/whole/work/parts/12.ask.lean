/-! the reference's questions -/
def z_today (σ : SG) : Int32 := σ 0 0 / 24
def z_busy (σ : SG) : Prop := (7 ≤ σ 0 0 - σ 0 0 / 24 * 24 ∧ σ 0 0 - σ 0 0 / 24 * 24 ≤ 9) ∨ (16 ≤ σ 0 0 - σ 0 0 / 24 * 24 ∧ σ 0 0 - σ 0 0 / 24 * 24 ≤ 18)
def z_last (σ : SG) (k : Nat) : Int32 := σ 30 k + σ 31 k - 1
noncomputable def z_end (σ : SG) (k : Nat) : Int32 := iT (σ 33 k = 3 ∧ ¬ z_today σ ≤ z_last σ k) (z_today σ) (z_last σ k)
def z_has (σ : SG) (k : Nat) (a b : Int32) : Prop := σ 30 k ≤ b ∧ a ≤ z_end σ k
def z_on (σ : SG) (k : Nat) : Prop := σ 33 k = 1 ∨ σ 33 k = 3
section Q
variable {A : Nat → Nat} {m : Nat} {S : PT} {σ : SG} {μ : MU}
theorem not_lt32 {a b : Int32} : (¬ a < b) = (b ≤ a) := by rw [ile, ilt]; exact propext (by omega)
theorem not_le32 {a b : Int32} : (¬ a ≤ b) = (b < a) := by rw [ile, ilt]; exact propext (by omega)
theorem r_isStreet (R : RM A m S σ μ) (x1 : Int32) (post : Int32 → PT → Prop) : w_X9_isStreet m x1 S post = post (bI (0 ≤ x1 ∧ x1 ≤ σ 1 0 - 1)) S := by
  unfold w_X9_isStreet
  simp only [RM_all R, Option.some.injEq, exists_eq_left', true_and, and_true, isIn_eq, bI_0, Classical.not_not, bo_0, bo_1, bI_bo, forall_eq]
theorem r_isThing (R : RM A m S σ μ) (x1 : Int32) (post : Int32 → PT → Prop) : w_X9_isThing m x1 S post = post (bI (0 ≤ x1 ∧ x1 ≤ σ 14 0 - 1)) S := by
  unfold w_X9_isThing
  simp only [RM_all R, Option.some.injEq, exists_eq_left', true_and, and_true, isIn_eq, bI_0, Classical.not_not, bo_0, bo_1, bI_bo, forall_eq]
theorem r_areWorks (R : RM A m S σ μ) (x1 : Int32) (post : Int32 → PT → Prop) : w_X9_areWorks m x1 S post = post (bI (0 ≤ x1 ∧ x1 ≤ σ 23 0 - 1)) S := by
  unfold w_X9_areWorks
  simp only [RM_all R, Option.some.injEq, exists_eq_left', true_and, and_true, isIn_eq, bI_0, Classical.not_not, bo_0, bo_1, bI_bo, forall_eq]
theorem r_isPromoter (x1 : Int32) (post : Int32 → PT → Prop) : w_X9_isPromoter x1 S post = post (bI (0 ≤ x1 ∧ x1 ≤ 4)) S := by
  unfold w_X9_isPromoter
  simp only [isIn_eq]
theorem r_today (R : RM A m S σ μ) (post : Int32 → PT → Prop) : w_X9_today m S post = post (z_today σ) S := by
  unfold w_X9_today
  simp only [RM_all R, Option.some.injEq, exists_eq_left', true_and, and_true, isIn_eq, bI_0, Classical.not_not, bo_0, bo_1, bI_bo, forall_eq, z_today]
theorem r_isBusy (R : RM A m S σ μ) (post : Int32 → PT → Prop) : w_X9_isBusy m S post = post (bI (z_busy σ)) S := by
  unfold w_X9_isBusy w_X9_isBusy_b34 w_X9_isBusy_b39
  simp only [RM_all R, Option.some.injEq, exists_eq_left', true_and, and_true, isIn_eq, bI_0, Classical.not_not, bo_0, bo_1, bI_bo, forall_eq, br2, br2']
  simp only [bI, z_busy]
  ((try simp only [iT]) <;> (repeat' split) <;> first | rfl | grind | (exfalso; simp_all; done) | (simp_all; done) | (simp only [ile, ilt] at *; (repeat' split) <;> first | rfl | (exfalso; omega) | (exfalso; simp_all; done)))
theorem r_lastDay (R : RM A m S σ μ) {k : Nat} (hk : k < 24) (post : Int32 → PT → Prop) : w_X9_lastDay m (nI k) S post = post (z_last σ k) S := by
  have h1 : vp_in (nI k) 24 := vin_nI hk (by decide)
  have h2 : (nI k).toNatClampNeg = k := qn_nat (by omega)
  unfold w_X9_lastDay
  simp only [RM_all R, Option.some.injEq, exists_eq_left', true_and, and_true, isIn_eq, bI_0, Classical.not_not, bo_0, bo_1, bI_bo, forall_eq, h1, h2, z_last]
theorem r_lastOf (R : RM A m S σ μ) {k : Nat} (hk : k < 24) (post : Int32 → PT → Prop) : w_X9_lastOf m (nI k) S post = post (z_end σ k) S := by
  have h1 : vp_in (nI k) 24 := vin_nI hk (by decide)
  have h2 : (nI k).toNatClampNeg = k := qn_nat (by omega)
  unfold w_X9_lastOf w_X9_lastOf_b26 w_X9_lastOf_b27 w_X9_lastOf_b44
  simp only [RM_all R, Option.some.injEq, exists_eq_left', true_and, and_true, isIn_eq, bI_0, Classical.not_not, bo_0, bo_1, bI_bo, forall_eq, h1, h2, r_lastDay R hk, r_today R, br2, br2']
  unfold z_end
  ((try simp only [iT]) <;> (repeat' split) <;> first | rfl | grind | (exfalso; simp_all; done) | (simp_all; done) | (simp only [ile, ilt] at *; (repeat' split) <;> first | rfl | (exfalso; omega) | (exfalso; simp_all; done)))
theorem r_hasDay (R : RM A m S σ μ) {k : Nat} (hk : k < 24) (a b : Int32) (post : Int32 → PT → Prop) : w_X9_hasDay m (nI k) a b S post = post (bI (z_has σ k a b)) S := by
  have h1 : vp_in (nI k) 24 := vin_nI hk (by decide)
  have h2 : (nI k).toNatClampNeg = k := qn_nat (by omega)
  unfold w_X9_hasDay w_X9_hasDay_b23 w_X9_hasDay_b24
  simp only [RM_all R, Option.some.injEq, exists_eq_left', true_and, and_true, isIn_eq, bI_0, Classical.not_not, bo_0, bo_1, bI_bo, forall_eq, h1, h2, r_lastOf R hk, br2, br2']
  simp only [bI, z_has]
  simp only [← not_lt32]
  ((try simp only [iT]) <;> (repeat' split) <;> first | rfl | grind | (exfalso; simp_all; done) | (simp_all; done) | (simp only [ile, ilt] at *; (repeat' split) <;> first | rfl | (exfalso; omega) | (exfalso; simp_all; done)))
theorem r_isOn (R : RM A m S σ μ) {k : Nat} (hk : k < 24) (post : Int32 → PT → Prop) : w_X9_isOn m (nI k) S post = post (bI (z_on σ k)) S := by
  have h1 : vp_in (nI k) 24 := vin_nI hk (by decide)
  have h2 : (nI k).toNatClampNeg = k := qn_nat (by omega)
  unfold w_X9_isOn w_X9_isOn_b20 w_X9_isOn_b25
  simp only [RM_all R, Option.some.injEq, exists_eq_left', true_and, and_true, isIn_eq, bI_0, Classical.not_not, bo_0, bo_1, bI_bo, forall_eq, h1, h2, br2, br2']
  simp only [bI, z_on]
  ((try simp only [iT]) <;> (repeat' split) <;> first | rfl | grind | (exfalso; simp_all; done) | (simp_all; done) | (simp only [ile, ilt] at *; (repeat' split) <;> first | rfl | (exfalso; omega) | (exfalso; simp_all; done)))
end Q
