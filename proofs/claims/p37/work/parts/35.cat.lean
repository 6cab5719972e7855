/-! what is there, and the class's whatBars -/
section K
variable {ad : Nat → Nat → Nat} {n : Nat → Nat} {S : PT} {T : CT} {σ : SG} {μ : MU}
theorem at_core {N m k : Nat} (hm : m ≤ N) (hN : N < 1000) (x : Int32) (post : Option Nat → PT → Prop) (r : Nat → Option Nat) (hr : ∀ i, i < N → r i = (iT (i < m) (some i) none).map (ad k)) :
    ((x < 0 → post none S) ∧ (¬ x < 0 → (nI N ≤ x → post none S) ∧ (¬ nI N ≤ x → vp_in x N ∧ post (r x.toNatClampNeg) S))) = post (iT (0 ≤ x ∧ x ≤ nI m - 1) (some (ad k x.toNatClampNeg)) none) S := by
  by_cases h0 : x < 0
  · rw [iT_F (fun h => by rw [← not_lt32] at h; exact h.1 h0)]
    simp [h0]
  · have h00 := h0
    rw [ilt, I0] at h00
    have hb := Ihi x
    by_cases hNx : nI N ≤ x
    · rw [iT_F (fun h => by
        have h2 := h.2
        rw [ile, nI_toInt (by omega)] at hNx
        rw [ile, tsub, nI_toInt (by omega), show (1 : Int32).toInt = 1 from by decide] at h2
        omega)]
      simp [h0, hNx]
    · have hx := hNx
      rw [ile, nI_toInt (by omega)] at hx
      obtain ⟨i, hi, rfl, hi2⟩ := ex_nI (x := x) (n := N) h0 (by omega)
      have g := vin_nI hi (show N < 2147483648 by omega)
      simp only [h0, hNx, not_false_eq_true, true_implies, false_implies, g, true_and, qn_nat hi2, hr i hi]
      have e : (0 ≤ nI i ∧ nI i ≤ nI m - 1) = (i < m) := by
        rw [ile, ile, tsub, nI_toInt hi2, nI_toInt (by omega), I0, show (1 : Int32).toInt = 1 from by decide]
        exact propext (by omega)
      rw [e]
      by_cases him : i < m
      · rw [iT_T him, iT_T him]; rfl
      · rw [iT_F him, iT_F him]; rfl
theorem k_streetAt (R : RC ad (VC n (z_len σ)) S T) (H : DQ T σ n) (x : Int32) (post : Option Nat → PT → Prop) : w_X8_streetAt (ad 9 0) x S post = post (iT (0 ≤ x ∧ x ≤ σ 1 0 - 1) (some (ad 5 x.toNatClampNeg)) none) S := by
  obtain ⟨-, -, -, -, d0, -, -, -, -, -, d1, -, -, -, d2, -⟩ := H.2.1
  unfold w_X8_streetAt w_X8_streetAt_b22 w_X8_streetAt_b23
  rw [H.1.1, ← at_core (N := 6) (m := n 5) (k := 5) H.1.2.1 (by decide) x post (gR S (ad 17 0)) (fun i _ => by rw [(RC_a17 R VC_17).2.2 i, d2])]
  simp only [RC_o9 R VC_9, RC_a17 R VC_17, d0, d1, Option.map_some, Option.some.injEq, exists_eq_left', true_and]
theorem k_thingAt (R : RC ad (VC n (z_len σ)) S T) (H : DQ T σ n) (x : Int32) (post : Option Nat → PT → Prop) : w_X8_thingAt (ad 9 0) x S post = post (iT (0 ≤ x ∧ x ≤ σ 14 0 - 1) (some (ad 7 x.toNatClampNeg)) none) S := by
  obtain ⟨-, -, -, -, -, d0, -, -, -, -, -, d1, -, -, -, d2, -⟩ := H.2.1
  unfold w_X8_thingAt w_X8_thingAt_b22 w_X8_thingAt_b23
  rw [H.1.2.2.1, ← at_core (N := 30) (m := n 7) (k := 7) H.1.2.2.2.1 (by decide) x post (gR S (ad 18 0)) (fun i _ => by rw [(RC_a18 R VC_18).2.2 i, d2])]
  simp only [RC_o9 R VC_9, RC_a18 R VC_18, d0, d1, Option.map_some, Option.some.injEq, exists_eq_left', true_and]
theorem k_worksAt (R : RC ad (VC n (z_len σ)) S T) (H : DQ T σ n) (x : Int32) (post : Option Nat → PT → Prop) : w_X8_worksAt (ad 9 0) x S post = post (iT (0 ≤ x ∧ x ≤ σ 23 0 - 1) (some (ad 8 x.toNatClampNeg)) none) S := by
  obtain ⟨-, -, -, -, -, -, d0, -, -, -, -, -, d1, -, -, -, d2, -⟩ := H.2.1
  unfold w_X8_worksAt w_X8_worksAt_b22 w_X8_worksAt_b23
  rw [H.1.2.2.2.2.1, ← at_core (N := 24) (m := n 8) (k := 8) H.1.2.2.2.2.2.1 (by decide) x post (gR S (ad 19 0)) (fun i _ => by rw [(RC_a19 R VC_19).2.2 i, d2])]
  simp only [RC_o9 R VC_9, RC_a19 R VC_19, d0, d1, Option.map_some, Option.some.injEq, exists_eq_left', true_and]
theorem k_partyAt (R : RC ad (VC n (z_len σ)) S T) (H : DQ T σ n) (x : Int32) (post : Option Nat → PT → Prop) : w_X8_partyAt (ad 9 0) x S post = post (iT (0 ≤ x ∧ x ≤ 5) (some (ad 4 x.toNatClampNeg)) none) S := by
  obtain ⟨-, -, -, -, -, -, -, d0, -, -, -, -, -, d1, -, -, -, d2, -⟩ := H.2.1
  unfold w_X8_partyAt w_X8_partyAt_b22 w_X8_partyAt_b23
  rw [show (5 : Int32) = nI 6 - 1 from by decide, ← at_core (N := 6) (m := 6) (k := 4) (Nat.le_refl _) (by decide) x post (gR S (ad 16 0)) (fun i hi => by rw [(RC_a16 R VC_16).2.2 i, d2 i hi, iT_T hi])]
  simp only [RC_o9 R VC_9, RC_a16 R VC_16, d0, d1, Option.map_some, Option.some.injEq, exists_eq_left', true_and]
theorem k_metreAt (R : RC ad (VC n (z_len σ)) S T) (H : DQ T σ n) {j : Nat} (hj : j < n 5) (x : Int32) (post : Option Nat → PT → Prop) : w_X4_metreAt (ad 5 j) x S post = post (iT (0 ≤ x ∧ x ≤ σ 2 j - 1) (some (ad 3 (40 * j + x.toNatClampNeg))) none) S := by
  have hl := z_len_i H.2.2.2.2.2.2.2 j
  obtain ⟨-, -, -, -, d4, -, -, -, -, -, d1, d2⟩ := H.2.2.1 j hj
  unfold w_X4_metreAt w_X4_metreAt_b22 w_X4_metreAt_b23
  have e := at_core (ad := fun _ i => ad 3 (40 * j + i)) (N := z_len σ j) (m := z_len σ j) (k := 3) (S := S) (Nat.le_refl _) (by omega) x post (gR S (ad 15 j)) (fun i hi => by rw [(RC_a15 R (VC_15 hj)).2.2 i, d2, iT_T hi, iT_T hi]; rfl)
  rw [← hl.1] at e
  rw [← e]
  simp only [RC_o5 R (VC_5 hj), RC_a15 R (VC_15 hj), d4, d1, ← hl.1, Option.map_some, Option.some.injEq, exists_eq_left', true_and]
theorem i3 {x : Int32} : (3 ≤ x) = (3 ≤ x.toInt) := by rw [ile, show (3 : Int32).toInt = 3 from by decide]
theorem k_areNear (R : RC ad (VC n (z_len σ)) S T) (H : DQ T σ n) {j k : Nat} (hj : j < n 8) (hk : k < n 8) (post : Int32 → PT → Prop) : w_X7_areNear (some (ad 8 j)) (some (ad 8 k)) S post = post (bI (z_near σ j k)) S := by
  obtain ⟨-, -, HV, -⟩ := H.2.2.2.2.2.2.1
  have vj := HV j hj
  have vk := HV k hk
  have B := H.2.2.2.2.2.2.2
  have sj := H.2.2.1 _ vj.1
  have sk := H.2.2.1 _ vk.1
  obtain ⟨s, es, hs, hs2⟩ := IB_nI B 25 j rfl
  obtain ⟨t, et, ht, ht2⟩ := IB_nI B 25 k rfl
  obtain ⟨-, -, p1, -, -, f1, t1, -⟩ := (H.2.2.2.1 j hj).1
  obtain ⟨-, -, p2, -, -, f2, t2, -⟩ := (H.2.2.2.1 k hk).1
  have b1 := B 26 j
  have b2 := B 27 j
  have b3 := B 26 k
  have b4 := B 27 k
  have o1 := vj.2.1
  have o2 := vk.2.1
  rw [es, qn_nat hs2] at vj sj p1
  rw [et, qn_nat ht2] at vk sk p2
  have q1 : (some (ad 5 s) = some (ad 5 t)) = (s = t) := RC_eq R (VC_5 vj.1) (VC_5 vk.1)
  have ar : ∀ a b : Nat, a < n 5 → b < n 5 → b < 2147483648 → D5 T σ a → (gP S 503 (ad 5 a) = some (ad 5 b)) = (σ 5 a = nI b) := by
    intro a b ha hb hb2 D
    rw [(RC_o5 R (VC_5 ha)).2.2.2.2.1, D.2.2.2.1]
    by_cases h5 : σ 5 a = -1
    · rw [iT_T h5, h5]
      apply propext
      constructor
      · intro h; cases h
      · intro h; rw [ieq, nI_toInt hb2, show (-1 : Int32).toInt = -1 from by decide] at h; omega
    · rw [iT_F h5]
      have va := (H.2.2.2.2.2.2.1.1 a ha).2.resolve_left h5
      have h0 : ¬ σ 5 a < 0 := by
        have := B 5 a
        simp only [bl, bh] at this
        rw [ieq, show (-1 : Int32).toInt = -1 from by decide] at h5
        rw [ilt, I0]; simp at this; omega
      obtain ⟨c, hc, ec, hc2⟩ := ex_nI (x := σ 5 a) (n := 6) h0 (by have := (B 5 a).2; simp only [bh] at this; omega)
      rw [ec, qn_nat hc2] at va ⊢
      rw [Option.map_some, RC_eq R (VC_5 (by omega)) (VC_5 hb), qn_eq hc2 hb2]
  have e25 : (σ 25 j = σ 25 k) = (s = t) := by rw [es, et, qn_eq hs2 ht2]
  unfold w_X7_areNear w_X7_areNear_b47 w_X7_areNear_b76 w_X7_areNear_b81
  simp only [RC_o8 R (VC_8 hj), RC_o8 R (VC_8 hk), p1, p2, f1, f2, t1, t2, Option.map_some, Option.some.injEq, exists_eq_left', true_and, bo_0, bo_1]
  have q2 : (ad 5 s = ad 5 t) = (s = t) := by rw [← q1]; simp
  rw [q2]
  by_cases hst : s = t
  · simp only [hst, not_true, false_implies, true_implies, not_false_eq_true, true_and]
    unfold z_near
    rw [iT_T (by rw [e25]; exact hst)]
    simp only [br2, i3, tsub]
    refine iT_ind (fun y => y = _) (fun h => ?_) (fun h => ?_)
    · rw [bI_F]
      simp only [ile, ilt, tsub, bl, bh, show (3 : Int32).toInt = 3 from by decide, show (1 : Int32).toInt = 1 from by decide] at *
      simp at b1 b2 b3 b4
      split at h <;> split at h <;> omega
    · rw [bI_T]
      simp only [ile, ilt, tsub, bl, bh, show (3 : Int32).toInt = 3 from by decide, show (1 : Int32).toInt = 1 from by decide] at *
      simp at b1 b2 b3 b4
      split at h <;> split at h <;> omega
  · simp only [hst, not_false_eq_true, false_implies, true_implies, and_true, RC_o5 R (VC_5 vj.1), RC_o5 R (VC_5 vk.1), true_and]
    unfold z_near
    rw [iT_F (by rw [e25]; exact hst)]
    have a1 := ar s t vj.1 vk.1 ht2 sj
    have a2 := ar t s vk.1 vj.1 hs2 sk
    simp only [RC_o5 R (VC_5 vj.1), RC_o5 R (VC_5 vk.1)] at a1 a2
    rw [es, et, qn_nat hs2, qn_nat ht2]
    simp only [a1, a2, br2, br2', bI]
    ((try simp only [iT]) <;> (repeat' split) <;> first | rfl | grind | (exfalso; simp_all; done) | (simp_all; done) | (simp only [ile, ilt] at *; (repeat' split) <;> first | rfl | (exfalso; omega) | (exfalso; simp_all; done)))
end K
