/-! the class's questions of one object -/
section K
variable {ad : Nat → Nat → Nat} {n : Nat → Nat} {S : PT} {T : CT} {σ : SG} {μ : MU}
theorem k_overlap (a b c d : Int32) (post : Int32 → PT → Prop) : w_X8_overlap a b c d S post = post (bI (a ≤ d ∧ c ≤ b)) S := by
  unfold w_X8_overlap w_X8_overlap_b14 w_X8_overlap_b15
  simp only [bo_0, bo_1, true_and, br2, br2', bI, ← not_lt32]
  ((try simp only [iT]) <;> (repeat' split) <;> first | rfl | grind | (exfalso; simp_all; done) | (simp_all; done) | (simp only [ile, ilt] at *; (repeat' split) <;> first | rfl | (exfalso; omega) | (exfalso; simp_all; done)))
theorem k_hasEmbargoIn (R : RC ad (VC n (z_len σ)) S T) {j : Nat} (hj : j < n 5) (D : D5 T σ j) (a b : Int32) (post : Int32 → PT → Prop) : w_X4_hasEmbargoIn (ad 5 j) a b S post = post (bI (¬ σ 8 j = -1 ∧ a ≤ σ 9 j ∧ σ 8 j ≤ b)) S := by
  unfold w_X4_hasEmbargoIn w_X4_hasEmbargoIn_b28 w_X4_hasEmbargoIn_b29
  by_cases h8 : σ 8 j = -1
  · simp only [RC_o5 R (VC_5 hj), D.2.2.2.2.2.1, h8, true_and, k_overlap, bI_0, bo_0, bo_1, br2, br2', bI]
    ((try simp only [iT]) <;> (repeat' split) <;> first | rfl | grind | (exfalso; simp_all; done) | (simp_all; done) | (simp only [ile, ilt] at *; (repeat' split) <;> first | rfl | (exfalso; omega) | (exfalso; simp_all; done)))
  · simp only [RC_o5 R (VC_5 hj), D.2.2.2.2.2.1, D.2.2.2.2.2.2.1 h8, h8, true_and, k_overlap, bI_0, bo_0, bo_1, br2, br2', bI]
    ((try simp only [iT]) <;> (repeat' split) <;> first | rfl | grind | (exfalso; simp_all; done) | (simp_all; done) | (simp only [ile, ilt] at *; (repeat' split) <;> first | rfl | (exfalso; omega) | (exfalso; simp_all; done)))
theorem k_isNewIn (R : RC ad (VC n (z_len σ)) S T) {j : Nat} (hj : j < n 5) (D : D5 T σ j) (a b : Int32) (post : Int32 → PT → Prop) : w_X4_isNewIn (ad 5 j) a b S post = post (bI (¬ σ 6 j = -1 ∧ a ≤ σ 6 j + 99 ∧ σ 6 j ≤ b)) S := by
  unfold w_X4_isNewIn w_X4_isNewIn_b31 w_X4_isNewIn_b32
  simp only [RC_o5 R (VC_5 hj), D.2.2.2.2.2.2.2.1, true_and, k_overlap, bI_0, bo_0, bo_1, br2, br2', bI]
  ((try simp only [iT]) <;> (repeat' split) <;> first | rfl | grind | (exfalso; simp_all; done) | (simp_all; done) | (simp only [ile, ilt] at *; (repeat' split) <;> first | rfl | (exfalso; omega) | (exfalso; simp_all; done)))
theorem k_weight (R : RC ad (VC n (z_len σ)) S T) {j : Nat} (hj : j < n 5) (D : D5 T σ j) (post : Int32 → PT → Prop) : w_X4_weight (ad 5 j) S post = post (4 - σ 3 j) S := by
  unfold w_X4_weight
  simp only [RC_o5 R (VC_5 hj), D.2.1, true_and]
theorem k_noticeOf (R : RC ad (VC n (z_len σ)) S T) {j : Nat} (hj : j < n 5) (D : D5 T σ j) (k : Int32) (post : Int32 → PT → Prop) : w_X4_noticeOf (ad 5 j) k S post = post (z_note k (σ 3 j)) S := by
  unfold w_X4_noticeOf w_X4_noticeOf_b29 w_X4_noticeOf_b45
  have e : (1 < σ 3 j) = (2 ≤ σ 3 j) := by rw [ilt, ile, show (1 : Int32).toInt = 1 from by decide, show (2 : Int32).toInt = 2 from by decide]; exact propext (by omega)
  simp only [RC_o5 R (VC_5 hj), D.2.1, true_and, br2, br2', e]
  unfold z_note
  ((try simp only [iT]) <;> (repeat' split) <;> first | rfl | grind | (exfalso; simp_all; done) | (simp_all; done) | (simp only [ile, ilt] at *; (repeat' split) <;> first | rfl | (exfalso; omega) | (exfalso; simp_all; done)))
theorem k_isStanding (R : RC ad (VC n (z_len σ)) S T) {k : Nat} (hk : k < n 8) (D : D8 T σ k) (post : Int32 → PT → Prop) : w_X7_isStanding (ad 8 k) S post = post (bI (z_on σ k)) S := by
  obtain ⟨-, -, -, -, -, -, -, -, -, -, d10, -⟩ := D
  unfold w_X7_isStanding w_X7_isStanding_b16 w_X7_isStanding_b21
  simp only [RC_o8 R (VC_8 hk), d10, true_and, bo_0, bo_1, br2, br2', bI, z_on]
  ((try simp only [iT]) <;> (repeat' split) <;> first | rfl | grind | (exfalso; simp_all; done) | (simp_all; done) | (simp only [ile, ilt] at *; (repeat' split) <;> first | rfl | (exfalso; omega) | (exfalso; simp_all; done)))
theorem k_isOver (R : RC ad (VC n (z_len σ)) S T) {k : Nat} (hk : k < n 8) (D : D8 T σ k) (post : Int32 → PT → Prop) : w_X7_isOver (ad 8 k) S post = post (bI (σ 33 k = 2 ∨ σ 33 k = 4)) S := by
  obtain ⟨-, -, -, -, -, -, -, -, -, -, d10, -⟩ := D
  unfold w_X7_isOver w_X7_isOver_b16 w_X7_isOver_b21
  simp only [RC_o8 R (VC_8 hk), d10, true_and, bo_0, bo_1, br2, br2', bI]
  ((try simp only [iT]) <;> (repeat' split) <;> first | rfl | grind | (exfalso; simp_all; done) | (simp_all; done) | (simp only [ile, ilt] at *; (repeat' split) <;> first | rfl | (exfalso; omega) | (exfalso; simp_all; done)))
theorem k_hasCondition (R : RC ad (VC n (z_len σ)) S T) {k : Nat} (hk : k < n 8) (D : D8 T σ k) (c : Int32) (post : Int32 → PT → Prop) : w_X7_hasCondition (ad 8 k) c S post = post (bI (¬ σ 34 k &&& c = 0)) S := by
  obtain ⟨-, -, -, -, -, -, -, -, -, -, -, d11, -⟩ := D
  unfold w_X7_hasCondition w_X7_hasCondition_b14
  simp only [RC_o8 R (VC_8 hk), d11, true_and, bo_0, bo_1, br2, br2', bI]
  ((try simp only [iT]) <;> (repeat' split) <;> first | rfl | grind | (exfalso; simp_all; done) | (simp_all; done) | (simp only [ile, ilt] at *; (repeat' split) <;> first | rfl | (exfalso; omega) | (exfalso; simp_all; done)))
theorem k_takesStreet (R : RC ad (VC n (z_len σ)) S T) {k : Nat} (hk : k < n 8) (D : D8 T σ k) (post : Int32 → PT → Prop) : w_X7_takesStreet (ad 8 k) S post = post (bI (z_takes σ k)) S := by
  obtain ⟨-, -, -, -, -, -, -, -, -, -, d10, -, -, -, d15, d16, -⟩ := D
  have g3 : (nI (z_opens σ (nI k)) ≤ 0) = (z_opens σ (nI k) = 0) := q_le0 (by have := opens_le σ (nI k); omega)
  unfold w_X7_takesStreet w_X7_takesStreet_b26 w_X7_takesStreet_b27
  simp only [RC_o8 R (VC_8 hk), d10, d15, d16, g3, true_and, bo_0, bo_1, br2, br2', bI, z_takes]
  ((try simp only [iT]) <;> (repeat' split) <;> first | rfl | grind | (exfalso; simp_all; done) | (simp_all; done) | (simp only [ile, ilt] at *; (repeat' split) <;> first | rfl | (exfalso; omega) | (exfalso; simp_all; done)))
theorem k_endOn (R : RC ad (VC n (z_len σ)) S T) {k : Nat} (hk : k < n 8) (D : D8 T σ k) (post : Int32 → PT → Prop) : w_X7_endOn (ad 8 k) (z_today σ) S post = post (z_end σ k) S := by
  obtain ⟨-, -, -, -, -, -, -, -, -, d9, d10, -⟩ := D
  unfold w_X7_endOn w_X7_endOn_b23
  simp only [RC_o8 R (VC_8 hk), d9, d10, true_and, br2, br2', z_end, not_le32]
  ((try simp only [iT]) <;> (repeat' split) <;> first | rfl | grind | (exfalso; simp_all; done) | (simp_all; done) | (simp only [ile, ilt] at *; (repeat' split) <;> first | rfl | (exfalso; omega) | (exfalso; simp_all; done)))
theorem k_settledOn (R : RC ad (VC n (z_len σ)) S T) {k : Nat} (hk : k < n 8) (D : D8 T σ k) (post : Int32 → PT → Prop) : w_X7_settledOn (ad 8 k) S post = post (σ 32 k + iT (σ 29 k = 2) 2 5) S := by
  obtain ⟨-, -, -, d3, d4, -⟩ := D
  unfold w_X7_settledOn w_X7_settledOn_b17
  simp only [RC_o8 R (VC_8 hk), d3, d4, true_and, br2, br2']
  ((try simp only [iT]) <;> (repeat' split) <;> first | rfl | grind | (exfalso; simp_all; done) | (simp_all; done) | (simp only [ile, ilt] at *; (repeat' split) <;> first | rfl | (exfalso; omega) | (exfalso; simp_all; done)))
theorem k_permitCost (R : RC ad (VC n (z_len σ)) S T) {k : Nat} (hk : k < n 8) (D : D8 T σ k) (hs : (σ 25 k).toNatClampNeg < n 5) (E : D5 T σ (σ 25 k).toNatClampNeg) (post : Int32 → PT → Prop) : w_X7_permitCost (ad 8 k) S post = post (z_cost σ k) S := by
  obtain ⟨-, -, d2, d3, -⟩ := D
  unfold w_X7_permitCost w_X7_permitCost_b39
  simp only [RC_o8 R (VC_8 hk), d2, d3, Option.map_some, Option.some.injEq, exists_eq_left', RC_o5 R (VC_5 hs), k_weight R hs E, true_and, br2, br2', z_cost]
  ((try simp only [iT]) <;> (repeat' split) <;> first | rfl | grind | (exfalso; simp_all; done) | (simp_all; done) | (simp only [ile, ilt] at *; (repeat' split) <;> first | rfl | (exfalso; omega) | (exfalso; simp_all; done)))
theorem k_daysLiable (R : RC ad (VC n (z_len σ)) S T) {k : Nat} (hk : k < n 8) (D : D8 T σ k) (post : Int32 → PT → Prop) : w_X7_daysLiable (ad 8 k) S post = post (iT (σ 28 k < 120) 200 300) S := by
  obtain ⟨-, -, -, -, -, -, -, d7, -⟩ := D
  unfold w_X7_daysLiable w_X7_daysLiable_b18
  simp only [RC_o8 R (VC_8 hk), d7, true_and, br2, br2']
  ((try simp only [iT]) <;> (repeat' split) <;> first | rfl | grind | (exfalso; simp_all; done) | (simp_all; done) | (simp only [ile, ilt] at *; (repeat' split) <;> first | rfl | (exfalso; omega) | (exfalso; simp_all; done)))
end K
