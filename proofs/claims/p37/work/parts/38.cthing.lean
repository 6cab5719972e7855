/-! the class's questions on things -/
theorem srch_0 (P : Nat → Prop) : ∀ m : Nat, m ≤ 31 → ((z_srch P m = 0) ↔ ¬ aN P m)
  | 0, _ => ⟨fun _ => aN_0, fun _ => rfl⟩
  | m + 1, h => by
    have ih := srch_0 P m (by omega)
    rw [z_srch_s, aN_or]
    by_cases e : P m
    · rw [iT_T e]
      refine ⟨fun h0 => ?_, fun h0 => absurd (Or.inr e) h0⟩
      rw [← Int32.toBitVec_inj, Int32.toBitVec_or, shl_eq m (by omega)] at h0
      have h1 : BitVec.twoPow 32 m = 0#32 := (BitVec.or_eq_zero_iff.mp h0).2
      exact absurd h1 (two_ne m (by omega))
    · rw [iT_F e, q_or0, ih]
      exact ⟨fun h1 h2 => h2.elim h1 e, fun h1 h2 => h1 (Or.inl h2)⟩
section K
variable {ad : Nat → Nat → Nat} {n : Nat → Nat} {S : PT} {T : CT} {σ : SG} {μ : MU}
theorem k_street_t (R : RC ad (VC n (z_len σ)) S T) (H : DQ T σ n) {t s : Nat} (ht : t < n 7) (hs : s < n 5) : (some (ad 5 (σ 16 t).toNatClampNeg) = some (ad 5 s)) = (σ 16 t = nI s) := by
  obtain ⟨a, ea, ha, ha2⟩ := IB_nI H.2.2.2.2.2.2.2 16 t rfl
  have h6 : n 5 ≤ 6 := H.1.2.1
  rw [RC_eq R (VC_5 (H.2.2.2.2.2.2.1.2.1 t ht).1) (VC_5 hs), ea, qn_nat ha2, qn_eq ha2 (by omega)]
theorem k_liesAt (R : RC ad (VC n (z_len σ)) S T) (H : DQ T σ n) {t s : Nat} (ht : t < n 7) (hs : s < n 5) (y : Int32) (post : Int32 → PT → Prop) : w_X6_liesAt (ad 7 t) (some (ad 5 s)) y S post = post (bI (z_lies σ t (nI s) y)) S := by
  obtain ⟨d0, d1, d2, d3, -⟩ := H.2.2.2.2.1 t ht
  unfold w_X6_liesAt w_X6_liesAt_b28 w_X6_liesAt_b29
  simp only [RC_o7 R (VC_7 ht), d1, d2, d3, Option.map_some, k_street_t R H ht hs, true_and, bo_0, bo_1, br2, br2', bI, z_lies, ← not_lt32]
  ((try simp only [iT]) <;> (repeat' split) <;> first | rfl | grind | (exfalso; simp_all; done) | (simp_all; done) | (simp only [ile, ilt] at *; (repeat' split) <;> first | rfl | (exfalso; omega) | (exfalso; simp_all; done)))
/-- metres of a street -/
theorem len_in (H : DQ T σ n) {s : Nat} {a : Int32} (ha : 0 ≤ a ∧ a ≤ σ 2 s - 1) : ∃ i : Nat, i < z_len σ s ∧ a = nI i ∧ i < 40 := by
  have hl := z_len_i H.2.2.2.2.2.2.2 s
  have h1 := ha.1
  have h2 := ha.2
  rw [ile, I0] at h1
  rw [hl.1, ile, tsub, nI_toInt (by omega), show (1 : Int32).toInt = 1 from by decide] at h2
  obtain ⟨i, hi, e, -⟩ := ex_nI (x := a) (n := z_len σ s) (by rw [ilt, I0]; omega) (by omega)
  exact ⟨i, hi, e, by omega⟩
theorem k_suspects (R : RC ad (VC n (z_len σ)) S T) (H : DQ T σ n) {s : Nat} (hs : s < n 5) {a b : Int32} (ha : 0 ≤ a ∧ a ≤ σ 2 s - 1) (hb : 0 ≤ b ∧ b ≤ σ 2 s - 1) (post : Int32 → PT → Prop) : w_X8_suspects (ad 9 0) (some (ad 5 s)) a b S post = post (z_srch (z_sr σ (nI s) a b) (n 7)) S := by
  have h30 : n 7 ≤ 30 := H.1.2.2.2.1
  obtain ⟨-, -, -, -, -, d0, -, -, -, -, -, d1, -, -, -, d2, -⟩ := H.2.1
  unfold w_X8_suspects
  refine (loop_ex (N := 30) (i0 := 0) (fun i => z_srch (z_sr σ (nI s) a b) (min i (n 7))) (fun m c v => w_X8_suspects_l6 (ad 9 0) (some (ad 5 s)) a b post m S c v) (post (z_srch (z_sr σ (nI s) a b) (n 7)) S) (Nat.zero_le _) (by rw [Nat.zero_min]; rfl) rfl (fun _ _ => rfl) (fun m => ?_) (fun m i _ hi => ?_))
  · show w_X8_suspects_l6 (ad 9 0) (some (ad 5 s)) a b post (m + 1) S _ _ = _
    unfold w_X8_suspects_l6
    have c : nI 30 ≤ nI 30 := by decide
    simp only [RC_o9 R VC_9, RC_a18 R VC_18, d0, d1, c, Option.map_some, Option.some.injEq, exists_eq_left', true_and, true_implies, not_true, false_implies, and_true, Nat.min_eq_right h30]
  · show w_X8_suspects_l6 (ad 9 0) (some (ad 5 s)) a b post (m + 1) S _ _ = w_X8_suspects_l6 (ad 9 0) (some (ad 5 s)) a b post m S _ _
    conv => lhs; unfold w_X8_suspects_l6
    unfold w_X8_suspects_b74
    have c : ¬ nI 30 ≤ nI i := by rw [qn_le (by omega) (by omega)]; omega
    have c1 : vp_in (nI i) 30 := vin_nI (by omega) (by decide)
    have c2 : (nI i).toNatClampNeg = i := qn_nat (by omega)
    simp only [RC_o9 R VC_9, RC_a18 R VC_18, d0, d1, c, c1, c2, d2, Option.map_some, Option.some.injEq, exists_eq_left', true_and, true_implies, not_true, false_implies, not_false_eq_true, qn_s]
    by_cases hin : i < n 7
    · rw [iT_T hin, Nat.min_eq_left (show i ≤ n 7 by omega), Nat.min_eq_left (show i + 1 ≤ n 7 by omega), z_srch_s]
      have st := k_street_t R H hin hs
      have st2 : (ad 5 (σ 16 i).toNatClampNeg = ad 5 s) = (σ 16 i = nI s) := by rw [← st]; simp
      obtain ⟨-, e1, -, -, -, e5, e6⟩ := H.2.2.2.2.1 i hin
      simp only [Option.map_some, reduceCtorEq, false_implies, true_and, Option.some.injEq, forall_eq', RC_o7 R (VC_7 hin), e1, e5, st2, k_overlap, bI_0, Classical.not_not, br2, br2']
      by_cases h20 : σ 20 i = 0
      · rw [iT_F (P := z_sr σ (nI s) a b i) (fun h => h.1 h20), q_or0]
        simp only [h20, iT_tt]
        exact iT_ind (fun y => y = _) (fun _ => rfl) (fun _ => rfl)
      · obtain ⟨e7, e8⟩ := e6 h20
        by_cases h16 : σ 16 i = nI s
        · have hl := z_len_i H.2.2.2.2.2.2.2 s
          have hs6 : s < 2147483648 := by have := H.1.2.1; omega
          rw [h16, qn_nat hs6] at e8
          have eo : (a ≤ tI T 707 i ∧ tI T 706 i ≤ b) = (σ 21 i ≤ b ∧ a ≤ σ 22 i) := by
            rw [e7, e8]
            have a2 := ha.2
            have b1 := hb.1
            apply propext
            have k1 : a ≤ iT (σ 2 s - 1 < σ 22 i) (σ 2 s - 1) (σ 22 i) ↔ a ≤ σ 22 i := by
              refine iT_ind (fun y => a ≤ y ↔ a ≤ σ 22 i) (fun h => ?_) (fun _ => Iff.rfl)
              rw [ilt] at h
              rw [ile] at a2 ⊢
              rw [ile]
              omega
            have k2 : iT (σ 21 i < 0) 0 (σ 21 i) ≤ b ↔ σ 21 i ≤ b := by
              refine iT_ind (fun y => y ≤ b ↔ σ 21 i ≤ b) (fun h => ?_) (fun _ => Iff.rfl)
              rw [ilt] at h
              rw [ile] at b1 ⊢
              rw [ile]
              omega
            rw [k1, k2]
            exact And.comm
          simp only [eo, h16, h20, iT_tt, iT_ff, not_false_eq_true]
          by_cases hp : σ 21 i ≤ b ∧ a ≤ σ 22 i
          · rw [iT_T (P := z_sr σ (nI s) a b i) ⟨h20, h16, hp⟩]
            simp only [hp, and_self, iT_tt, not_true, iT_ff]
          · rw [iT_F (P := z_sr σ (nI s) a b i) (fun h => hp h.2.2), q_or0]
            simp only [hp, iT_tt, not_false_eq_true, iT_ff]
        · rw [iT_F (P := z_sr σ (nI s) a b i) (fun h => h16 h.2.1), q_or0]
          simp only [h16, not_false_eq_true, iT_tt, iT_ff]
    · rw [iT_F hin, Nat.min_eq_right (show n 7 ≤ i by omega), Nat.min_eq_right (show n 7 ≤ i + 1 by omega)]
      simp only [Option.map_none, reduceCtorEq, true_implies, false_implies, implies_true, and_true]
theorem k_isSuspect (R : RC ad (VC n (z_len σ)) S T) (H : DQ T σ n) {s : Nat} (hs : s < n 5) {y : Int32} (hy : 0 ≤ y ∧ y ≤ σ 2 s - 1) (post : Int32 → PT → Prop) : w_X8_isSuspect (ad 9 0) (some (ad 5 s)) y S post = post (bI (aN (fun t => z_susB σ t (nI s) y) (n 7))) S := by
  have h30 : n 7 ≤ 30 := H.1.2.2.2.1
  have e : z_sr σ (nI s) y y = fun t => z_susB σ t (nI s) y := rfl
  unfold w_X8_isSuspect w_X8_isSuspect_b15
  simp only [RC_o9 R VC_9, k_suspects R H hs hy hy, e, propext (srch_0 (fun t => z_susB σ t (nI s) y) (n 7) (by omega)), true_and, bo_0, bo_1, br2, br2', bI]
  ((try simp only [iT]) <;> (repeat' split) <;> first | rfl | grind | (exfalso; simp_all; done) | (simp_all; done) | (simp only [ile, ilt] at *; (repeat' split) <;> first | rfl | (exfalso; omega) | (exfalso; simp_all; done)))
end K
