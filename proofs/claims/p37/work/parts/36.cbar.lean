/-! the lowest works that are met; what bars -/
def z_fm (σ : SG) (j : Nat) (e : Int32) (b : Prop) (i : Nat) : Prop := i ≠ j ∧ (b → z_on σ i) ∧ z_may σ j i ∧ (σ 30 j ≤ z_end σ i ∧ σ 30 i ≤ e) ∧ σ 39 (24 * j + i) = 0 ∧ z_near σ j i
section K
variable {ad : Nat → Nat → Nat} {n : Nat → Nat} {S : PT} {T : CT} {σ : SG} {μ : MU}
theorem wat_T (H : DQ T σ n) {α : Type} {a b : α} {i : Nat} (h : i < n 8) : iT (0 ≤ nI i ∧ nI i ≤ σ 23 0 - 1) a b = a := by
  have h24 : n 8 ≤ 24 := H.1.2.2.2.2.2.1
  refine iT_T ?_
  rw [H.1.2.2.2.2.1, ile, ile, tsub, nI_toInt (by omega), nI_toInt (by omega), I0, show (1 : Int32).toInt = 1 from by decide]
  omega
theorem wat_F (H : DQ T σ n) {α : Type} {a b : α} {i : Nat} (h : ¬ i < n 8) (hi : i < 1000) : iT (0 ≤ nI i ∧ nI i ≤ σ 23 0 - 1) a b = b := by
  have h24 : n 8 ≤ 24 := H.1.2.2.2.2.2.1
  refine iT_F ?_
  rw [H.1.2.2.2.2.1, ile, ile, tsub, nI_toInt (by omega), nI_toInt (by omega), I0, show (1 : Int32).toInt = 1 from by decide]
  omega
theorem k_firstMet_l (R : RC ad (VC n (z_len σ)) S T) (H : DQ T σ n) {j : Nat} (hj : j < n 8) (e f b : Int32) (post : Int32 → PT → Prop) : ∀ (d i : Nat), i + d = 24 →
    w_X8_firstMet_l3 (ad 9 0) (some (ad 8 j)) e f b post (d + 1) S (nI i) = post (z_first (z_fm σ j e (¬ b = 0)) (n 8 - i) i) S := by
  have h24 : n 8 ≤ 24 := H.1.2.2.2.2.2.1
  obtain ⟨-, -, -, -, -, -, d0, -, -, -, -, -, d1, -⟩ := H.2.1
  intro d
  induction d with
  | zero =>
    intro i hi
    have e1 : i = 24 := by omega
    subst e1
    unfold w_X8_firstMet_l3
    have c : nI 24 ≤ nI 24 := by decide
    simp only [RC_o9 R VC_9, RC_a19 R VC_19, d0, d1, c, Option.map_some, Option.some.injEq, exists_eq_left', true_and, true_implies, not_true, false_implies, and_true]
    rw [show n 8 - 24 = 0 by omega]
    rfl
  | succ d ih =>
    intro i hi
    have ih1 := ih (i + 1) (by omega)
    unfold w_X8_firstMet_l3
    have c : ¬ nI 24 ≤ nI i := by rw [qn_le (by omega) (by omega)]; omega
    simp only [RC_o9 R VC_9, RC_a19 R VC_19, d0, d1, c, Option.map_some, Option.some.injEq, exists_eq_left', true_and, true_implies, not_true, false_implies, and_true, not_false_eq_true, k_worksAt R H]
    by_cases hin : i < n 8
    · rw [wat_T H hin, qn_nat (by omega)]
      have E : n 8 - i = n 8 - (i + 1) + 1 := by omega
      rw [E]
      have eqj : (some (ad 8 i) = some (ad 8 j)) = (i = j) := RC_eq R (VC_8 hin) (VC_8 hj)
      have eqj2 : (ad 8 i = ad 8 j) = (i = j) := by rw [← eqj]; simp
      have b48 : w_X8_firstMet_b48 (ad 9 0) (some (ad 8 j)) e f b post (w_X8_firstMet_l3 (ad 9 0) (some (ad 8 j)) e f b post (d + 1)) S (nI i) (some (ad 8 i)) =
          iT (z_may σ j i ∧ (σ 30 j ≤ z_end σ i ∧ σ 30 i ≤ e) ∧ σ 39 (24 * j + i) = 0 ∧ z_near σ j i) (post (nI i) S) (post (z_first (z_fm σ j e (¬ b = 0)) (n 8 - (i + 1)) (i + 1)) S) := by
        obtain ⟨-, -, -, -, -, -, -, -, dj, -⟩ := (H.2.2.2.1 j hj).1
        obtain ⟨-, -, -, -, -, -, -, -, di, -⟩ := (H.2.2.2.1 i hin).1
        unfold w_X8_firstMet_b48 w_X8_firstMet_b103
        simp only [k_mayMeet R H hj hin, RC_o9 R VC_9, RC_o8 R (VC_8 hj), RC_o8 R (VC_8 hin), k_today R H, k_endOn R hin (H.2.2.2.1 i hin).1, k_overlap, dj, di, k_agreesWith R H hj hin, k_areNear R H hj hin, Option.some.injEq, exists_eq_left', bI_0, Classical.not_not, qn_s, ih1, true_and, br2, br2']
        ((try simp only [iT]) <;> (repeat' split) <;> first | rfl | grind | (exfalso; simp_all; done) | (simp_all; done) | (simp only [ile, ilt] at *; (repeat' split) <;> first | rfl | (exfalso; omega) | (exfalso; simp_all; done)))
      unfold w_X8_firstMet_b103
      simp only [b48, reduceCtorEq, false_implies, true_and, Option.some.injEq, forall_eq', eqj2, RC_o8 R (VC_8 hin), k_isStanding R hin (H.2.2.2.1 i hin).1, bI_0, Classical.not_not, qn_s, ih1, br2, br2', z_first, z_fm, ne_eq]
      ((try simp only [iT]) <;> (repeat' split) <;> first | rfl | grind | (exfalso; simp_all; done) | (simp_all; done) | (simp only [ile, ilt] at *; (repeat' split) <;> first | rfl | (exfalso; omega) | (exfalso; simp_all; done)))
    · rw [wat_F H hin (by omega)]
      unfold w_X8_firstMet_b103
      simp only [reduceCtorEq, false_implies, true_implies, and_true, qn_s, ih1, implies_true]
      rw [show n 8 - (i + 1) = 0 by omega, show n 8 - i = 0 by omega]
      rfl
theorem k_firstMet (R : RC ad (VC n (z_len σ)) S T) (H : DQ T σ n) {j : Nat} (hj : j < n 8) (e b : Int32) {i : Nat} (hi : i < 2147483648) (post : Int32 → PT → Prop) (h : post (z_first (z_fm σ j e (¬ b = 0)) (n 8 - i) i) S) : w_X8_firstMet (ad 9 0) (some (ad 8 j)) e (nI i) b S post := by
  have h24 : n 8 ≤ 24 := H.1.2.2.2.2.2.1
  unfold w_X8_firstMet
  by_cases hle : i ≤ 24
  · refine ⟨24 - i + 1, ?_⟩
    rw [k_firstMet_l R H hj e (nI i) b post (24 - i) i (by omega)]
    exact h
  · refine ⟨1, ?_⟩
    obtain ⟨-, -, -, -, -, -, d0, -, -, -, -, -, d1, -⟩ := H.2.1
    unfold w_X8_firstMet_l3
    have c : nI 24 ≤ nI i := by rw [qn_le (by omega) hi]; omega
    simp only [RC_o9 R VC_9, RC_a19 R VC_19, d0, d1, c, Option.map_some, Option.some.injEq, exists_eq_left', true_and, true_implies, not_true, false_implies, and_true]
    rw [show n 8 - i = 0 by omega] at h
    exact h
end K
