/-! the rest of the class's questions -/
theorem cN_int (lo hi : Int) : ∀ m : Nat, (cN (fun y => lo ≤ (y : Int) ∧ (y : Int) ≤ hi) m : Int) = max 0 (min (hi + 1) m - max lo 0)
  | 0 => by simp only [cN]; omega
  | m + 1 => by
    have ih := cN_int lo hi m
    unfold cN
    by_cases e : lo ≤ (m : Int) ∧ (m : Int) ≤ hi
    · rw [iT_T e]; omega
    · rw [iT_F e]; omega
/-- a record covers a metre -/
def DR (σ : SG) (n : Nat → Nat) : Prop := ∀ t, t < n 7 → ¬ σ 20 t = 0 → σ 21 t ≤ σ 22 t ∧ 0 ≤ σ 22 t ∧ σ 21 t ≤ σ 2 (σ 16 t).toNatClampNeg - 1
section K
variable {ad : Nat → Nat → Nat} {n : Nat → Nat} {S : PT} {T : CT} {σ : SG} {μ : MU}
theorem k_suspectMetres (R : RC ad (VC n (z_len σ)) S T) (H : DQ T σ n) (HR : DR σ n) {t : Nat} (ht : t < n 7) (post : Int32 → PT → Prop) : w_X6_suspectMetres (ad 7 t) S post = post (z_susN σ t) S := by
  obtain ⟨-, -, -, -, -, e5, e6⟩ := H.2.2.2.2.1 t ht
  unfold w_X6_suspectMetres w_X6_suspectMetres_b22
  by_cases h20 : σ 20 t = 0
  · simp only [RC_o7 R (VC_7 ht), e5, h20, true_and, true_implies, not_true, false_implies, and_true]
    have e : cN (fun y => z_susB σ t (σ 16 t) (nI y)) (z_len σ (σ 16 t).toNatClampNeg) = 0 := (cN_0 _).mpr (fun i _ h => h.1 h20)
    unfold z_susN
    rw [e]; rfl
  · obtain ⟨e7, e8⟩ := e6 h20
    obtain ⟨r1, r2, r3⟩ := HR t ht h20
    have hl := z_len_i H.2.2.2.2.2.2.2 (σ 16 t).toNatClampNeg
    have b1 := H.2.2.2.2.2.2.2 21 t
    have b2 := H.2.2.2.2.2.2.2 22 t
    simp only [bl, bh] at b1 b2
    simp at b1 b2
    simp only [RC_o7 R (VC_7 ht), e5, e7, e8, h20, true_and, true_implies, not_false_eq_true, false_implies]
    unfold z_susN
    generalize z_len σ (σ 16 t).toNatClampNeg = len at *
    have ec : cN (fun y => z_susB σ t (σ 16 t) (nI y)) len = cN (fun y => (σ 21 t).toInt ≤ (y : Int) ∧ (y : Int) ≤ (σ 22 t).toInt) len := by
      refine cN_cong len (fun i hi => ?_)
      unfold z_susB
      rw [ile, ile, nI_toInt (by omega)]
      exact ⟨fun h => h.2.2, fun h => ⟨h20, rfl, h⟩⟩
    have ei := cN_int (σ 21 t).toInt (σ 22 t).toInt len
    rw [← ec] at ei
    rw [hl.1] at r3 ⊢
    have key : iT (nI len - 1 < σ 22 t) (nI len - 1) (σ 22 t) - iT (σ 21 t < 0) 0 (σ 21 t) + 1 = nI (cN (fun y => z_susB σ t (σ 16 t) (nI y)) len) := by
      rw [ile] at r1
      rw [ile, I0] at r2
      rw [ile, tsub, nI_toInt (by omega), show (1 : Int32).toInt = 1 from by decide] at r3
      have hc := cN_le (fun y => z_susB σ t (σ 16 t) (nI y)) len
      rw [ieq, nI_toInt (by omega), ei]
      refine iT_ind (fun y => (y - iT (σ 21 t < 0) 0 (σ 21 t) + 1).toInt = _) (fun g1 => iT_ind (fun y => (nI len - 1 - y + 1).toInt = _) (fun g2 => ?_) (fun g2 => ?_)) (fun g1 => iT_ind (fun y => (σ 22 t - y + 1).toInt = _) (fun g2 => ?_) (fun g2 => ?_))
      all_goals
        simp only [ilt, tsub, tadd, nI_toInt (show len < 2147483648 by omega), I0, show (1 : Int32).toInt = 1 from by decide] at g1 g2 ⊢
        omega
    rw [key]
theorem k_ownMetreAt (R : RC ad (VC n (z_len σ)) S T) (H : DQ T σ n) {k : Nat} (hk : k < n 8) (y : Int32) (post : Option Nat → PT → Prop) : w_X7_ownMetreAt (ad 8 k) y S post = post (iT (σ 26 k ≤ y ∧ y ≤ σ 27 k) (some (ad 3 (z_at σ k y))) none) S := by
  obtain ⟨-, -, d2, -, -, d5, d6, -⟩ := (H.2.2.2.1 k hk).1
  obtain ⟨hs, ho, hlt⟩ := H.2.2.2.2.2.2.1.2.2.1 k hk
  have hl := z_len_i H.2.2.2.2.2.2.2 (σ 25 k).toNatClampNeg
  have b1 := (H.2.2.2.2.2.2.2 26 k).1
  have b2 := (H.2.2.2.2.2.2.2 27 k).1
  have b3 := (H.2.2.2.2.2.2.2 27 k).2
  simp only [bl, bh] at b1 b2 b3
  simp at b1 b2 b3
  unfold w_X7_ownMetreAt w_X7_ownMetreAt_b27 w_X7_ownMetreAt_b28
  simp only [RC_o8 R (VC_8 hk), d2, d5, d6, Option.map_some, Option.some.injEq, exists_eq_left', RC_o5 R (VC_5 hs), k_metreAt R H hs, true_and]
  by_cases h1 : y < σ 26 k
  · rw [iT_F (P := σ 26 k ≤ y ∧ y ≤ σ 27 k) (fun h => by have := h.1; rw [← not_lt32] at this; exact this h1)]
    simp [h1]
  · by_cases h2 : σ 27 k < y
    · rw [iT_F (P := σ 26 k ≤ y ∧ y ≤ σ 27 k) (fun h => by have := h.2; rw [← not_lt32] at this; exact this h2)]
      simp [h1, h2]
    · have g : 0 ≤ y ∧ y ≤ σ 2 (σ 25 k).toNatClampNeg - 1 := by
        rw [ilt] at h1 h2
        unfold Int32.toNatClampNeg at hlt
        rw [hl.1, ile, ile, tsub, nI_toInt (by omega), I0, show (1 : Int32).toInt = 1 from by decide]
        unfold Int32.toNatClampNeg at hl ⊢
        omega
      rw [iT_T (P := σ 26 k ≤ y ∧ y ≤ σ 27 k) ⟨by rw [← not_lt32]; exact h1, by rw [← not_lt32]; exact h2⟩, iT_T g]
      simp only [h1, h2, not_false_eq_true, true_implies, false_implies, true_and]
      rfl
theorem k_hasOpenMetre_l (R : RC ad (VC n (z_len σ)) S T) (H : DQ T σ n) {j : Nat} (hj : j < n 5) (post : Int32 → PT → Prop) : ∀ (d i : Nat), i + d = z_len σ j → (∀ l, l < i → σ 13 (40 * j + l) = -1) →
    w_X4_hasOpenMetre_l2 (ad 5 j) post (d + 1) S (nI i) = post (bI (aN (fun l => ¬ σ 13 (40 * j + l) = -1) (z_len σ j))) S := by
  have h40 := (z_len_i H.2.2.2.2.2.2.2 j).2
  obtain ⟨-, -, -, -, d4, -, -, -, -, -, d1, d2⟩ := H.2.2.1 j hj
  intro d
  induction d with
  | zero =>
    intro i hi hn
    unfold w_X4_hasOpenMetre_l2
    have c : nI (z_len σ j) ≤ nI i := by rw [qn_le (by omega) (by omega)]; omega
    simp only [RC_o5 R (VC_5 hj), RC_a15 R (VC_15 hj), d4, d1, c, Option.map_some, Option.some.injEq, exists_eq_left', true_and, true_implies, not_true, false_implies, and_true]
    rw [bI_F]
    rintro ⟨l, hl, h⟩
    exact h (hn l (by omega))
  | succ d ih =>
    intro i hi hn
    unfold w_X4_hasOpenMetre_l2 w_X4_hasOpenMetre_b32
    have c : ¬ nI (z_len σ j) ≤ nI i := by rw [qn_le (by omega) (by omega)]; omega
    have c1 : vp_in (nI i) (z_len σ j) := vin_nI (by omega) (by omega)
    have hil : i < z_len σ j := by omega
    have o3 := RC_o3 R (VC_3 (len := z_len σ) hj hil (by omega))
    obtain ⟨-, m1, -, -⟩ := H.2.2.2.2.2.1 j i hj hil
    simp only [RC_o5 R (VC_5 hj), RC_a15 R (VC_15 hj), d4, d1, d2, c, c1, qn_nat (show i < 2147483648 by omega), Option.map_some, Option.some.injEq, exists_eq_left', true_and, true_implies, not_true, false_implies, not_false_eq_true, iT_T hil, reduceCtorEq, forall_eq', o3, m1, qn_s]
    by_cases h13 : σ 13 (40 * j + i) = -1
    · rw [ih (i + 1) (by omega) (fun l hl => by
        by_cases e : l = i
        · rw [e]; exact h13
        · exact hn l (by omega))]
      simp [h13]
    · rw [bI_T (P := aN (fun l => ¬ σ 13 (40 * j + l) = -1) (z_len σ j)) ⟨i, hil, h13⟩]
      simp [h13]
theorem k_hasOpenMetre (R : RC ad (VC n (z_len σ)) S T) (H : DQ T σ n) {j : Nat} (hj : j < n 5) {post : Int32 → PT → Prop} (h : post (bI (¬ cN (fun i => ¬ σ 13 (40 * j + i) = -1) 40 = 0)) S) : w_X4_hasOpenMetre (ad 5 j) S post := by
  have h40 := (z_len_i H.2.2.2.2.2.2.2 j).2
  have e : (¬ cN (fun i => ¬ σ 13 (40 * j + i) = -1) 40 = 0) ↔ aN (fun l => ¬ σ 13 (40 * j + l) = -1) (z_len σ j) := by
    rw [cN_0]
    constructor
    · intro hn
      refine Classical.byContradiction (fun hc => hn (fun i hi h13 => hc ?_))
      have hv := (H.2.2.2.2.2.2.1.2.2.2.2.1 (40 * j + i) (by have := H.1.2.1; omega) h13).2
      rw [show (40 * j + i) / 40 = j by omega, show (40 * j + i) % 40 = i by omega] at hv
      exact ⟨i, hv, h13⟩
    · rintro ⟨l, hl, h13⟩ hn
      exact hn l (by omega) h13
  rw [bI_c e] at h
  refine ⟨z_len σ j + 1, ?_⟩
  have := k_hasOpenMetre_l R H hj post (z_len σ j) 0 (by omega) (fun l hl => by omega)
  rw [show (0 : Int32) = nI 0 from rfl, this]
  exact h
end K
