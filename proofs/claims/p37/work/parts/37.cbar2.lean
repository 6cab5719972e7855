/-! what bars, as the reference's -/
theorem first_no (P : Nat → Prop) : ∀ (d i : Nat), i + d < 2147483648 → (z_first P d i = -1 ↔ ∀ l, i ≤ l → l < i + d → ¬ P l)
  | 0, i, _ => by
    refine ⟨fun _ l h1 h2 => by omega, fun _ => rfl⟩
  | d + 1, i, hb => by
    have ih := first_no P d (i + 1) (by omega)
    rw [z_first]
    by_cases h : P i
    · rw [iT_T h]
      refine ⟨fun e => ?_, fun e => absurd h (e i (by omega) (by omega))⟩
      rw [ieq, nI_toInt (by omega), show (-1 : Int32).toInt = -1 from by decide] at e
      omega
    · rw [iT_F h, ih]
      refine ⟨fun e l h1 h2 => ?_, fun e l h1 h2 => e l (by omega) (by omega)⟩
      by_cases hl : l = i
      · subst hl; exact h
      · exact e l (by omega) (by omega)
theorem first_c {P Q : Nat → Prop} (h : ∀ i, P i ↔ Q i) (d i : Nat) : z_first P d i = z_first Q d i := by
  rw [show P = Q from funext (fun i => propext (h i))]
theorem fm_on (σ : SG) (j i : Nat) : z_fm σ j (z_end σ j) (¬ (1 : Int32) = 0) i ↔ (z_on σ i ∧ z_meet σ j i) := by
  have c : ¬ (1 : Int32) = 0 := by decide
  unfold z_fm z_meet z_has
  constructor
  · rintro ⟨h1, h2, h3, h4, h5, h6⟩
    exact ⟨h2 c, h3, fun e => h1 e.symm, h4, h5, h6⟩
  · rintro ⟨h1, h2, h3, h4, h5, h6⟩
    exact ⟨fun e => h3 e.symm, fun _ => h1, h2, h4, h5, h6⟩
theorem fm_all (σ : SG) (j i : Nat) : z_fm σ j (z_end σ j) (¬ (0 : Int32) = 0) i ↔ z_meet σ j i := by
  have c : ¬ ¬ (0 : Int32) = 0 := fun h => h rfl
  unfold z_fm z_meet z_has
  constructor
  · rintro ⟨h1, -, h3, h4, h5, h6⟩
    exact ⟨h3, fun e => h1 e.symm, h4, h5, h6⟩
  · rintro ⟨h2, h3, h4, h5, h6⟩
    exact ⟨fun e => h3 e.symm, fun e => absurd e c, h2, h4, h5, h6⟩
theorem first_met (σ : SG) (j : Nat) {nW : Nat} (h : nW < 1000) : (z_first (z_fm σ j (z_end σ j) (¬ (1 : Int32) = 0)) nW 0 = -1) = ¬ z_met σ j nW := by
  rw [propext (first_no _ nW 0 (by omega))]
  apply propext
  unfold z_met aN
  constructor
  · rintro h ⟨i, hi, hp⟩
    exact h i (by omega) (by omega) ((fm_on σ j i).mpr hp)
  · intro h l _ hl hp
    exact h ⟨l, by omega, (fm_on σ j l).mp hp⟩
section K
variable {ad : Nat → Nat → Nat} {n : Nat → Nat} {S : PT} {T : CT} {σ : SG} {μ : MU}
theorem k_whatBars (R : RC ad (VC n (z_len σ)) S T) (H : DQ T σ n) {j : Nat} (hj : j < n 8) {post : Int32 → PT → Prop} (h : post (z_bars σ j (n 8)) S) : w_X8_whatBars (ad 9 0) (some (ad 8 j)) S post := by
  have h24 : n 8 ≤ 24 := H.1.2.2.2.2.2.1
  have hs := (H.2.2.2.2.2.2.1.2.2.1 j hj).1
  have E := H.2.2.1 _ hs
  obtain ⟨-, -, d2, d3, -, -, -, -, d8, -, -, -, -, -, -, -, d17⟩ := (H.2.2.2.1 j hj).1
  have b60 : (z_met σ j (n 8) → post 3 S) → (¬ z_met σ j (n 8) → post 0 S) → w_X8_whatBars_b60 (ad 9 0) (some (ad 8 j)) post S (z_end σ j) := by
    intro h3 h0
    unfold w_X8_whatBars_b60 w_X8_whatBars_b77
    refine ⟨(RC_o9 R VC_9).1, k_firstMet R H hj (z_end σ j) 1 (i := 0) (by decide) _ ?_⟩
    rw [Nat.sub_zero, first_met σ j (show n 8 < 1000 by omega)]
    exact ⟨fun hm => h3 (Classical.not_not.mp hm), h0⟩
  unfold z_bars at h
  unfold w_X8_whatBars
  simp only [RC_o8 R (VC_8 hj), d2, d3, d8, d17, RC_o9 R VC_9, k_today R H, k_endOn R hj (H.2.2.2.1 j hj).1, Option.map_some, Option.some.injEq, exists_eq_left', RC_o5 R (VC_5 hs), k_hasEmbargoIn R hs E, k_isNewIn R hs E, bI_0, Classical.not_not, true_and]
  refine ⟨fun h3 => ?_, fun h3 => by rw [iT_T h3] at h; exact h⟩
  rw [iT_F h3] at h
  have em : (¬ σ 8 (σ 25 j).toNatClampNeg = -1 ∧ σ 30 j ≤ σ 9 (σ 25 j).toNatClampNeg ∧ σ 8 (σ 25 j).toNatClampNeg ≤ z_end σ j) = (¬ σ 8 (σ 25 j).toNatClampNeg = -1 ∧ z_has σ j (σ 8 (σ 25 j).toNatClampNeg) (σ 9 (σ 25 j).toNatClampNeg)) := rfl
  have nw : (¬ σ 6 (σ 25 j).toNatClampNeg = -1 ∧ σ 30 j ≤ σ 6 (σ 25 j).toNatClampNeg + 99 ∧ σ 6 (σ 25 j).toNatClampNeg ≤ z_end σ j) = (¬ σ 6 (σ 25 j).toNatClampNeg = -1 ∧ z_has σ j (σ 6 (σ 25 j).toNatClampNeg) (σ 6 (σ 25 j).toNatClampNeg + 99)) := rfl
  rw [em, nw]
  refine ⟨fun h1 => ?_, fun h1 => by rw [iT_T h1] at h; exact h⟩
  rw [iT_F h1] at h
  have low : ¬ (¬ σ 6 (σ 25 j).toNatClampNeg = -1 ∧ σ 38 j = 0 ∧ z_has σ j (σ 6 (σ 25 j).toNatClampNeg) (σ 6 (σ 25 j).toNatClampNeg + 99)) → w_X8_whatBars_b60 (ad 9 0) (some (ad 8 j)) post S (z_end σ j) := by
    intro hn
    rw [iT_F hn] at h
    exact b60 (fun hm => by rw [iT_T hm] at h; exact h) (fun hm => by rw [iT_F hm] at h; exact h)
  refine ⟨fun h17 => low (fun e => h17 e.2.1), fun h17 => ⟨fun hn => low (fun e => hn ⟨e.1, e.2.2⟩), fun hn => ?_⟩⟩
  rw [iT_T ⟨hn.1, h17, hn.2⟩] at h
  exact h
end K
