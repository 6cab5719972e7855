/-! a street is made -/
section C
variable {ad : Nat → Nat → Nat} {S : PT} {T T0 : CT} {σ : SG} {n len : Nat → Nat} {μ : MU} {pl : Nat → Nat} {B E : Nat} {V : Nat → Nat → Prop}
theorem WJ_nA (W : WJ V T) {k i m : Nat} (h : ¬ V k i) (hk : 12 ≤ k) : WJ (Vn V k i) (uM T k i m) := by
  refine ⟨⟨fun l s j t h1 h2 h3 h4 h5 => ?_, fun l j x t h1 h2 h3 => ?_⟩, fun l s j h1 h2 h3 h4 h5 => ?_⟩
  · rcases h1 with h1 | ⟨e1, -⟩
    · exact Or.inl (W.1.1 l s j t h1 h2 h3 h4 h5)
    · omega
  · replace h3 : up2 (tR T) k i (fun _ => none) l j x = some t := h3
    by_cases e : l = k ∧ j = i
    · rw [e.1, e.2, up2_s] at h3; cases h3
    · rw [up2_ne _ _ e] at h3
      rcases h1 with h1 | h1
      · exact Or.inl (W.1.2 l j x t h1 h2 h3)
      · exact absurd h1 e
  · rcases h1 with h1 | ⟨e1, -⟩
    · exact W.2 l s j h1 h2 h3 h4 h5
    · omega
/-- the street J and its first i metres are there, too -/
def V3 (n len : Nat → Nat) (J i : Nat) : Nat → Nat → Prop := fun k j => VC n len k j ∨ (k = 5 ∧ j = J) ∨ (k = 15 ∧ j = J) ∨ (k = 3 ∧ 40 * J ≤ j ∧ j < 40 * J + i)
theorem V3_0 (n len : Nat → Nat) (J : Nat) : Vn (Vn (VC n len) 5 J) 15 J = V3 n len J 0 := by
  funext k j
  apply propext
  unfold Vn V3
  constructor
  · rintro ((h | h) | h)
    · exact Or.inl h
    · exact Or.inr (Or.inl h)
    · exact Or.inr (Or.inr (Or.inl h))
  · rintro (h | h | h | ⟨-, h1, h2⟩)
    · exact Or.inl (Or.inl h)
    · exact Or.inl (Or.inr h)
    · exact Or.inr h
    · omega
theorem V3_s (n len : Nat → Nat) (J i : Nat) : Vn (V3 n len J i) 3 (40 * J + i) = V3 n len J (i + 1) := by
  funext k j
  apply propext
  unfold Vn V3
  constructor
  · rintro ((h | h | h | ⟨e, h1, h2⟩) | ⟨e, e2⟩)
    · exact Or.inl h
    · exact Or.inr (Or.inl h)
    · exact Or.inr (Or.inr (Or.inl h))
    · exact Or.inr (Or.inr (Or.inr ⟨e, h1, by omega⟩))
    · exact Or.inr (Or.inr (Or.inr ⟨e, by omega, by omega⟩))
  · rintro (h | h | h | ⟨e, h1, h2⟩)
    · exact Or.inl (Or.inl h)
    · exact Or.inl (Or.inr (Or.inl h))
    · exact Or.inl (Or.inr (Or.inr (Or.inl h)))
    · by_cases hj : j < 40 * J + i
      · exact Or.inl (Or.inr (Or.inr (Or.inr ⟨e, h1, hj⟩)))
      · exact Or.inr ⟨e, by omega⟩
theorem V3_L (n len : Nat → Nat) {L : Nat} (hL : L ≤ 40) : V3 n len (n 5) L = VC (nU n 5) (fun j => if j = n 5 then L else len j) := by
  funext k j
  apply propext
  unfold V3
  by_cases e3 : k = 3
  · subst e3
    show ((j / 40 < n 5 ∧ j % 40 < len (j / 40)) ∨ (3 = 5 ∧ j = n 5) ∨ (3 = 15 ∧ j = n 5) ∨ (3 = 3 ∧ 40 * n 5 ≤ j ∧ j < 40 * n 5 + L)) ↔ (j / 40 < nU n 5 5 ∧ j % 40 < (if j / 40 = n 5 then L else len (j / 40)))
    rw [nU_s]
    by_cases e : j / 40 = n 5
    · rw [if_pos e]; omega
    · rw [if_neg e]; omega
  · by_cases e5 : k = 5
    · subst e5
      show (j < n 5 ∨ (5 = 5 ∧ j = n 5) ∨ (5 = 15 ∧ j = n 5) ∨ (5 = 3 ∧ 40 * n 5 ≤ j ∧ j < 40 * n 5 + L)) ↔ j < nU n 5 5
      rw [nU_s]; omega
    · by_cases e15 : k = 15
      · subst e15
        show (j < n 5 ∨ (15 = 5 ∧ j = n 5) ∨ (15 = 15 ∧ j = n 5) ∨ (15 = 3 ∧ 40 * n 5 ≤ j ∧ j < 40 * n 5 + L)) ↔ j < nU n 5 5
        rw [nU_s]; omega
      · have hl : VC (nU n 5) (fun j => if j = n 5 then L else len j) k j = VC (nU n 5) len k j := by
          unfold VC
          split <;> first | rfl | exact absurd rfl e3
        rw [hl, VC_eq (n := n) (n' := nU n 5) (fun _ => nU_o n (by omega)) (fun h => by omega) (fun _ => nU_o n (by omega)) (fun _ => nU_o n (by omega)) (fun _ => nU_o n (by omega))]
        exact ⟨fun h => h.elim id (fun z => z.elim (fun y => absurd y.1 e5) (fun y => y.elim (fun x => absurd x.1 e15) (fun x => absurd x.1 e3))), Or.inl⟩
/-- T is T0 with the first i metres of the street J -/
def SS (T0 T : CT) (J i : Nat) : Prop :=
  (∀ F, ¬ F / 100 = 3 → tI T F = tI T0 F ∧ tP T F = tP T0 F) ∧ (∀ F q, ¬ (40 * J ≤ q ∧ q < 40 * J + 40) → tI T F q = tI T0 F q ∧ tP T F q = tP T0 F q) ∧
  tN T = tN T0 ∧ (∀ k, ¬ k = 15 → tR T k = tR T0 k) ∧ (∀ j, j ≠ J → tR T 15 j = tR T0 15 j) ∧ (∀ l, tR T 15 J l = iT (l < i) (some (40 * J + l)) none) ∧
  (∀ l, l < i → tI T 300 (40 * J + l) = 0 ∧ tI T 301 (40 * J + l) = -1 ∧ tI T 302 (40 * J + l) = 0 ∧ tP T 303 (40 * J + l) = none) ∧ tJ T = tJ T0 ∧ tA T = tA T0
theorem SS_s {J i : Nat} (hi : i < 40) (h : SS T0 T J i) : SS T0 (uR (uI (uN T 3 (40 * J + i)) 301 (40 * J + i) (-1)) 15 J i (some (40 * J + i))) J (i + 1) := by
  obtain ⟨a1, a2, a3, a4, a5, a6, a7, a8, a9⟩ := h
  refine ⟨fun F hF => ⟨?_, ?_⟩, fun F q hq => ⟨?_, ?_⟩, ?_, fun k hk => ?_, fun j hj => ?_, fun l => ?_, fun l hl => ?_, ?_, ?_⟩
  · rw [tI_uR, tI_of (by omega), tI_N hF]; exact (a1 F hF).1
  · rw [tP_uR, tP_uI, tP_N hF]; exact (a1 F hF).2
  · rw [tI_uR, tI_i (by omega), tI_Ni (by omega)]; exact (a2 F q hq).1
  · rw [tP_uR, tP_uI, tP_Ni (by omega)]; exact (a2 F q hq).2
  · rw [tN_uR, tN_uI, tN_uN]; exact a3
  · rw [tR_of hk, tR_uI, tR_uN]; exact a4 k hk
  · funext x
    show up2 (tR (uI (uN T 3 (40 * J + i)) 301 (40 * J + i) (-1))) 15 J _ 15 j x = _
    rw [up2_i _ _ hj, tR_uI, tR_uN, a5 j hj]
  · rw [tR_s, tR_uI, tR_uN, a6]
    by_cases e : l = i
    · rw [if_pos e, iT_T (by omega), e]
    · rw [if_neg e]
      by_cases hl : l < i
      · rw [iT_T hl, iT_T (by omega)]
      · rw [iT_F hl, iT_F (by omega)]
  · by_cases e : l = i
    · subst e
      refine ⟨?_, ?_, ?_, ?_⟩ <;> simp only [tI_uP, tI_uR, tP_uI, tP_uR, tR_uI, tR_uP, tR_uN, tN_uI, tN_uP, tN_uR, tN_uN, tJ_uI, tJ_uP, tJ_uR, tJ_N, tA_uI, tA_uP, tA_uR, tA_uN, tB_uI, tB_uP, tB_uR, tB_uN, tI_s, tI_o, tP_s, tP_o, tI_Ns, tP_Ns, ne_eq, Nat.reduceEqDiff, Nat.reduceDiv, Nat.reduceMul, Nat.reduceAdd, not_false_eq_true]
    · have e2 : 40 * J + l ≠ 40 * J + i := by omega
      have := a7 l (by omega)
      rw [tI_uR, tP_uR, tP_uI, tI_i e2, tI_i e2, tI_i e2, tI_Ni e2, tI_Ni e2, tI_Ni e2, tP_Ni e2]
      exact this
  · rw [tJ_uR, tJ_uI, tJ_N (by decide)]; exact a8
  · rw [tA_uR, tA_uI, tA_uN]; exact a9
theorem k_street_l {J L : Nat} (hJ : n 5 = J) (hL : L ≤ 40) (x1 x2 x3 x4 : Int32) (x5 : Option Nat) {mc ms : Nat} {post : PT → Prop} (p504 : tP T0 504 J = some J) (nL : tN T0 15 J = L) : ∀ (d i c0 n0 : Nat) (ad : Nat → Nat → Nat) (S : PT) (T : CT), i + d = L → RC ad (V3 n len J i) S T → WJ (V3 n len J i) T → SS T0 T J i → c0 + d ≤ mc → n0 + 4 * d ≤ ms →
    (∀ ad' S' T', RC ad' (V3 n len J L) S' T' → WJ (V3 n len J L) T' → SS T0 T' J L → (∀ k i, k ≠ 3 → ad' k i = ad k i) → post S') → w_X4_init_l61 (ad 5 J) x1 x2 x3 x4 x5 mc ms post (d + 1) c0 n0 S (nI i) := by
  intro d
  induction d with
  | zero =>
    intro i c0 n0 ad S T hi R W A hc hn h
    have e : i = L := by omega
    subst e
    have v5 : V3 n len J i 5 J := Or.inr (Or.inl ⟨rfl, rfl⟩)
    have v15 : V3 n len J i 15 J := Or.inr (Or.inr (Or.inl ⟨rfl, rfl⟩))
    have o5 := RC_o5 R v5
    have o15 := RC_a15 R v15
    unfold w_X4_init_l61
    refine ⟨by omega, by omega, o5.1, ad 15 J, ?_, o15.1, ?_⟩
    · rw [o5.2.2.2.2.2.1, (A.1 504 (by decide)).2, p504]; rfl
    · rw [o15.2.1, A.2.2.1, nL]
      exact ⟨fun _ => h ad S T R W A (fun _ _ _ => rfl), fun hn => absurd (by rw [qn_le (by omega) (by omega)]; exact Nat.le_refl _) hn⟩
  | succ d ih =>
    intro i c0 n0 ad S T hi R W A hc hn h
    have v5 : V3 n len J i 5 J := Or.inr (Or.inl ⟨rfl, rfl⟩)
    have v15 : V3 n len J i 15 J := Or.inr (Or.inr (Or.inl ⟨rfl, rfl⟩))
    have o5 := RC_o5 R v5
    have o15 := RC_a15 R v15
    have c : ¬ nI L ≤ nI i := by rw [qn_le (by omega) (by omega)]; omega
    unfold w_X4_init_l61
    refine ⟨by omega, by omega, o5.1, ad 15 J, ?_, o15.1, ?_⟩
    · rw [o5.2.2.2.2.2.1, (A.1 504 (by decide)).2, p504]; rfl
    rw [o15.2.1, A.2.2.1, nL]
    refine ⟨fun hn => absurd hn c, fun _ => ⟨by omega, by omega, ?_⟩⟩
    intro q S1 hq e1
    have hno : ¬ V3 n len J i 3 (40 * J + i) := by
      rintro (⟨z1, z2⟩ | ⟨z, -⟩ | ⟨z, -⟩ | ⟨-, z1, z2⟩) <;> omega
    have R1 := RC_nO R W.1 hq hno (by decide) (by decide)
    have W1 := WJ_nO W hno (by decide)
    rw [V3_s] at R1 W1
    rw [← e1] at R1
    have e7 : ∀ k j, k ≠ 3 → up2 ad 3 (40 * J + i) q k j = ad k j := fun k j hk => up2_f _ _ _ _ hk
    have eq7 : up2 ad 3 (40 * J + i) q 3 (40 * J + i) = q := up2_s _ _ _ _
    generalize up2 ad 3 (40 * J + i) q = A1 at *
    rw [← e7 5 J (by decide), ← e7 15 J (by decide), ← eq7]
    have v3 : V3 n len J (i + 1) 3 (40 * J + i) := Or.inr (Or.inr (Or.inr ⟨rfl, by omega, by omega⟩))
    have v15' : V3 n len J (i + 1) 15 J := Or.inr (Or.inr (Or.inl ⟨rfl, rfl⟩))
    unfold w_X2_init
    refine ⟨(RC_o3 R1 v3).1, ?_⟩
    refine RC_uI R1 v3 1 rfl (by decide) (by decide) (fun S2 R2 => ?_)
    have o152 := RC_a15 R2 v15'
    refine ⟨o152.1, (RC_o3 R2 v3).1, ?_, ?_⟩
    · rw [o152.2.1, tN_uI, tN_uN, A.2.2.1, nL]
      exact vin_nI (by omega) (by omega)
    rw [qn_nat (show i < 2147483648 by omega), qn_s]
    refine RC_uR R2 v15' (by decide) (some (40 * J + i)) rfl (fun S3 R3 => ?_)
    exact ih (i + 1) (c0 + 1) (n0 + 4) A1 S3 _ (by omega) R3 (WJ_uR (WJ_uI W1) (fun t ht => by cases ht; exact v3)) (SS_s (by omega) A) (by omega) (by omega) (fun ad' S' T' R' W' A' e' => h ad' S' T' R' W' A' (fun k j hk => (e' k j hk).trans (e7 k j hk)))
end C
