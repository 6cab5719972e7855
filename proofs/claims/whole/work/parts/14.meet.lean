/-! meeting and barring -/
def z_near (σ : SG) (j k : Nat) : Prop := iT (σ 25 j = σ 25 k) (σ 26 j - σ 27 k ≤ 3 ∧ σ 26 k - σ 27 j ≤ 3) (σ 5 (σ 25 j).toNatClampNeg = σ 25 k ∨ σ 5 (σ 25 k).toNatClampNeg = σ 25 j)
def z_may (σ : SG) (j k : Nat) : Prop := (z_on σ j ∧ (z_on σ k ∨ σ 33 k = 0)) ∨ (z_on σ k ∧ σ 33 j = 0)
def z_meet (σ : SG) (j k : Nat) : Prop := z_may σ j k ∧ j ≠ k ∧ z_has σ j (σ 30 k) (z_end σ k) ∧ σ 39 (24 * j + k) = 0 ∧ z_near σ j k
def z_met (σ : SG) (j : Nat) : Nat → Prop := aN fun k => z_on σ k ∧ z_meet σ j k
section Q
variable {A : Nat → Nat} {m : Nat} {S : PT} {σ : SG} {μ : MU}
theorem r_areNear (R : RM A m S σ μ) (B : IB σ) {j k : Nat} (hj : j < 24) (hk : k < 24) (post : Int32 → PT → Prop) : w_X9_areNear m (nI j) (nI k) S post = post (bI (z_near σ j k)) S := by
  have h1 : vp_in (nI k) 24 := vin_nI hk (by decide)
  have h2 : (nI k).toNatClampNeg = k := qn_nat (by omega)
  have g1 : vp_in (nI j) 24 := vin_nI hj (by decide)
  have g2 : (nI j).toNatClampNeg = j := qn_nat (by omega)
  have e1 : vp_in (σ 25 j) 6 := IB_vin B 25 j 6 (by decide) (by decide)
  have e2 : vp_in (σ 25 k) 6 := IB_vin B 25 k 6 (by decide) (by decide)
  unfold w_X9_areNear w_X9_areNear_b53 w_X9_areNear_b54 w_X9_areNear_b89 w_X9_areNear_b94
  simp only [RM_all R, Option.some.injEq, exists_eq_left', true_and, and_true, isIn_eq, bI_0, Classical.not_not, bo_0, bo_1, bI_bo, forall_eq, h1, h2, g1, g2, e1, e2, br2, br2']
  simp only [bI, z_near]
  simp only [← not_lt32]
  ((try simp only [iT]) <;> (repeat' split) <;> first | rfl | grind | (exfalso; simp_all; done) | (simp_all; done) | (simp only [ile, ilt] at *; (repeat' split) <;> first | rfl | (exfalso; omega) | (exfalso; simp_all; done)))
theorem r_doMeet (R : RM A m S σ μ) (B : IB σ) {j k : Nat} (hj : j < 24) (hk : k < 24) (post : Int32 → PT → Prop) : w_X9_doMeet m (nI j) (nI k) S post = post (bI (z_meet σ j k)) S := by
  have h1 : vp_in (nI k) 24 := vin_nI hk (by decide)
  have h2 : (nI k).toNatClampNeg = k := qn_nat (by omega)
  have g1 : vp_in (nI j) 24 := vin_nI hj (by decide)
  have g2 : (nI j).toNatClampNeg = j := qn_nat (by omega)
  have e0 : (24 : Int32) * nI j + nI k = nI (24 * j + k) := by rw [qn_lit24, qn_mul, qn_add]
  have e1 : vp_in (nI (24 * j + k)) 576 := vin_nI (by omega) (by decide)
  have e2 : (nI (24 * j + k)).toNatClampNeg = 24 * j + k := qn_nat (by omega)
  have e3 : nI j = nI k ↔ j = k := qn_eq (by omega) (by omega)
  unfold w_X9_doMeet w_X9_doMeet_b25 w_X9_doMeet_b42 w_X9_doMeet_b46 w_X9_doMeet_b47 w_X9_doMeet_b103 w_X9_doMeet_b104
  simp only [RM_all R, Option.some.injEq, exists_eq_left', true_and, and_true, isIn_eq, bI_0, Classical.not_not, bo_0, bo_1, bI_bo, forall_eq, h1, h2, g1, g2, e0, e1, e2, e3, r_isOn R hj, r_isOn R hk, r_lastOf R hk, r_hasDay R hj, r_areNear R B hj hk, br2, br2']
  simp only [bI, z_meet, z_may]
  ((try simp only [iT]) <;> (repeat' split) <;> first | rfl | grind | (exfalso; simp_all; done) | (simp_all; done) | (simp only [ile, ilt] at *; (repeat' split) <;> first | rfl | (exfalso; omega) | (exfalso; simp_all; done)))
theorem r_meetsOn (R : RM A m S σ μ) (B : IB σ) {j nW : Nat} (hj : j < 24) (hn : σ 23 0 = nI nW) (hW : nW ≤ 24) (post : Int32 → PT → Prop) : w_X9_meetsOn m (nI j) S post = post (bI (z_met σ j nW)) S := by
  unfold w_X9_meetsOn z_met
  refine loop_ex (N := nW) (i0 := 0) (fun i => bI (aN (fun k => z_on σ k ∧ z_meet σ j k) i)) (fun n a v => w_X9_meetsOn_l4 m (nI j) post n S a v) _ (Nat.zero_le _) bI_a0 rfl (fun _ _ => rfl) (fun n => ?_) (fun n i _ hi => ?_)
  · show w_X9_meetsOn_l4 m (nI j) post (n + 1) S _ _ = _
    unfold w_X9_meetsOn_l4
    have c : nI nW ≤ nI nW := by rw [qn_le (by omega) (by omega)]; omega
    simp only [RM_all R, Option.some.injEq, exists_eq_left', true_and, and_true, isIn_eq, bI_0, Classical.not_not, bo_0, bo_1, bI_bo, forall_eq, hn, c]
    simp
  · show w_X9_meetsOn_l4 m (nI j) post (n + 1) S _ _ = w_X9_meetsOn_l4 m (nI j) post n S _ _
    conv => lhs; unfold w_X9_meetsOn_l4
    unfold w_X9_meetsOn_b33 w_X9_meetsOn_b37 w_X9_meetsOn_b38
    have c : ¬ nI nW ≤ nI i := by rw [qn_le (by omega) (by omega)]; omega
    simp only [RM_all R, Option.some.injEq, exists_eq_left', true_and, and_true, isIn_eq, bI_0, Classical.not_not, bo_0, bo_1, bI_bo, forall_eq, hn, c, r_isOn R (show i < 24 by omega), r_doMeet R B hj (show i < 24 by omega), br2, br2', aN_s, qn_s]
    simp only [bI]
    ((try simp only [iT]) <;> (repeat' split) <;> first | rfl | grind | (exfalso; simp_all; done) | (simp_all; done) | (simp only [ile, ilt] at *; (repeat' split) <;> first | rfl | (exfalso; omega) | (exfalso; simp_all; done)))
end Q
