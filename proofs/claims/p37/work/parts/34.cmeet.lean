/-! the class's questions: meeting, barring -/
/-- all that a question needs -/
def DQ (T : CT) (σ : SG) (n : Nat → Nat) : Prop :=
  DN σ n ∧ D9 T σ n ∧ (∀ j, j < n 5 → D5 T σ j) ∧ (∀ k, k < n 8 → D8 T σ k ∧ D8a T σ k) ∧ (∀ t, t < n 7 → D7 T σ t) ∧ (∀ j i, j < n 5 → i < z_len σ j → D3 T σ (n 1) (40 * j + i)) ∧ DV σ n ∧ IB σ
theorem shl_eq : ∀ k : Nat, k < 32 → ((1 : Int32) <<< (nI k &&& 31)).toBitVec = BitVec.twoPow 32 k := by decide +kernel
theorem two_ne : ∀ k : Nat, k < 32 → ¬ BitVec.twoPow 32 k = 0#32 := by decide +kernel
theorem bit_and (x : Int32) {k : Nat} (hk : k < 32) : (x &&& ((1 : Int32) <<< (nI k &&& 31)) = 0) = ¬ bitI x k := by
  apply propext
  rw [← Int32.toBitVec_inj, Int32.toBitVec_and, shl_eq k hk, BitVec.and_twoPow]
  unfold bitI
  by_cases h : x.toBitVec.getLsbD k = true
  · rw [if_pos h]
    exact ⟨fun e => absurd e (two_ne k hk), fun e => absurd h e⟩
  · rw [if_neg h]
    exact ⟨fun _ => h, fun _ => rfl⟩
section K
variable {ad : Nat → Nat → Nat} {n : Nat → Nat} {S : PT} {T : CT} {σ : SG} {μ : MU}
theorem k_today (R : RC ad (VC n (z_len σ)) S T) (H : DQ T σ n) (post : Int32 → PT → Prop) : w_X8_today (ad 9 0) S post = post (z_today σ) S := by
  unfold w_X8_today
  simp only [RC_o9 R VC_9, H.2.1.2.2.2.1, true_and, z_today]
theorem k_isBusy (R : RC ad (VC n (z_len σ)) S T) (H : DQ T σ n) (post : Int32 → PT → Prop) : w_X8_isBusy (ad 9 0) S post = post (bI (z_busy σ)) S := by
  unfold w_X8_isBusy w_X8_isBusy_b20 w_X8_isBusy_b32 w_X8_isBusy_b36 w_X8_isBusy_b37
  simp only [RC_o9 R VC_9, H.2.1.2.2.2.1, true_and, bo_0, bo_1, br2, br2', bI, z_busy, ← not_lt32]
  ((try simp only [iT]) <;> (repeat' split) <;> first | rfl | grind | (exfalso; simp_all; done) | (simp_all; done) | (simp only [ile, ilt] at *; (repeat' split) <;> first | rfl | (exfalso; omega) | (exfalso; simp_all; done)))
theorem k_isPromoter (x : Int32) (post : Int32 → PT → Prop) : w_X8_isPromoter x S post = post (bI (0 ≤ x ∧ x ≤ 4)) S := by
  unfold w_X8_isPromoter w_X8_isPromoter_b13 w_X8_isPromoter_b14
  have e : (5 ≤ x) = (4 < x) := by rw [ilt, ile, show (5 : Int32).toInt = 5 from by decide, show (4 : Int32).toInt = 4 from by decide]; exact propext (by omega)
  simp only [true_and, bo_0, bo_1, br2, br2', bI, e, ← not_lt32]
  ((try simp only [iT]) <;> (repeat' split) <;> first | rfl | grind | (exfalso; simp_all; done) | (simp_all; done) | (simp only [ile, ilt] at *; (repeat' split) <;> first | rfl | (exfalso; omega) | (exfalso; simp_all; done)))
theorem k_bit (R : RC ad (VC n (z_len σ)) S T) {k : Nat} (hk : k < n 8) (D : D8 T σ k) (post : Int32 → PT → Prop) : w_X7_bit (ad 8 k) S post = post (1 <<< (nI k &&& 31)) S := by
  unfold w_X7_bit
  simp only [RC_o8 R (VC_8 hk), D.1, true_and]
theorem k_agreesWith (R : RC ad (VC n (z_len σ)) S T) (H : DQ T σ n) {j k : Nat} (hj : j < n 8) (hk : k < n 8) (post : Int32 → PT → Prop) : w_X7_agreesWith (ad 8 j) (some (ad 8 k)) S post = post (bI (¬ σ 39 (24 * j + k) = 0)) S := by
  have h24 : n 8 ≤ 24 := H.1.2.2.2.2.2.1
  have e := bit_and (tI T 814 j) (show k < 32 by omega)
  have e2 : bitI (tI T 814 j) k = ¬ σ 39 (24 * j + k) = 0 := propext (((H.2.2.2.1 j hj).2 k).trans ⟨fun h => h.2, fun h => ⟨by omega, h⟩⟩)
  unfold w_X7_agreesWith w_X7_agreesWith_b17
  simp only [RC_o8 R (VC_8 hj), RC_o8 R (VC_8 hk), k_bit R hk (H.2.2.2.1 k hk).1, Option.some.injEq, exists_eq_left', true_and, bo_0, bo_1, br2, br2', e, e2, bI]
  ((try simp only [iT]) <;> (repeat' split) <;> first | rfl | grind | (exfalso; simp_all; done) | (simp_all; done) | (simp only [ile, ilt] at *; (repeat' split) <;> first | rfl | (exfalso; omega) | (exfalso; simp_all; done)))
theorem k_mayMeet (R : RC ad (VC n (z_len σ)) S T) (H : DQ T σ n) {j k : Nat} (hj : j < n 8) (hk : k < n 8) (post : Int32 → PT → Prop) : w_X7_mayMeet (some (ad 8 j)) (some (ad 8 k)) S post = post (bI (z_may σ j k)) S := by
  have b1 := H.2.2.2.2.2.2.2 33 j
  have b2 := H.2.2.2.2.2.2.2 33 k
  unfold w_X7_mayMeet w_X7_mayMeet_b14 w_X7_mayMeet_b28 w_X7_mayMeet_b32 w_X7_mayMeet_b33
  simp only [RC_o8 R (VC_8 hj), RC_o8 R (VC_8 hk), Option.some.injEq, exists_eq_left', k_isStanding R hj (H.2.2.2.1 j hj).1, k_isStanding R hk (H.2.2.2.1 k hk).1, k_isOver R hj (H.2.2.2.1 j hj).1, k_isOver R hk (H.2.2.2.1 k hk).1, bI_0, true_and, bo_0, bo_1, br2, br2', Classical.not_not]
  have e : z_may σ j k ↔ (z_on σ j ∧ ¬ (σ 33 k = 2 ∨ σ 33 k = 4)) ∨ (z_on σ k ∧ ¬ (σ 33 j = 2 ∨ σ 33 j = 4)) := by
    unfold z_may z_on
    simp only [ieq, bl, bh] at *
    rw [show (0 : Int32).toInt = 0 from by decide, show (1 : Int32).toInt = 1 from by decide, show (2 : Int32).toInt = 2 from by decide, show (3 : Int32).toInt = 3 from by decide, show (4 : Int32).toInt = 4 from by decide]
    simp at b1 b2
    omega
  rw [bI_c e]
  simp only [bI]
  ((try simp only [iT]) <;> (repeat' split) <;> first | rfl | grind | (exfalso; simp_all; done) | (simp_all; done) | (simp only [ile, ilt] at *; (repeat' split) <;> first | rfl | (exfalso; omega) | (exfalso; simp_all; done)))
end K
