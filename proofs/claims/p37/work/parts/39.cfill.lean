/-! the class's questions on metres that are filled -/
theorem lastO_in (P : Nat → Prop) : ∀ (m k : Nat), lastO P m = some k → k < m ∧ P k
  | 0, k, h => by cases h
  | m + 1, k, h => by
    rw [lastO] at h
    by_cases e : P m
    · rw [iT_T e] at h; cases h; exact ⟨by omega, e⟩
    · rw [iT_F e] at h
      have := lastO_in P m k h
      exact ⟨by omega, this.2⟩
theorem lastO_c {P Q : Nat → Prop} : ∀ m : Nat, (∀ i, i < m → (P i ↔ Q i)) → lastO P m = lastO Q m
  | 0, _ => rfl
  | m + 1, h => by rw [lastO, lastO, lastO_c m (fun i hi => h i (by omega)), propext (h m (by omega))]
theorem laN_O (P : Nat → Prop) : ∀ m : Nat, laN P m = (match lastO P m with | none => -1 | some k => nI k)
  | 0 => rfl
  | m + 1 => by
    rw [laN_s, lastO, laN_O P m]
    by_cases e : P m
    · rw [iT_T e, iT_T e]
    · rw [iT_F e, iT_F e]
/-- fills, and the surfaces among them -/
def DF (T : CT) (σ : SG) (n : Nat → Nat) (pl : Nat → Nat) : Prop :=
  (∀ k, k < n 1 → D1 T σ pl k) ∧ (∀ j k, j < n 5 → k < n 1 → (tI T 508 j ≤ nI (pl k) ↔ σ 7 j ≤ nI k))
section K
variable {ad : Nat → Nat → Nat} {n : Nat → Nat} {S : PT} {T : CT} {σ : SG} {μ : MU} {pl : Nat → Nat}
theorem k_deep_l (R : RC ad (VC n (z_len σ)) S T) (H : DQ T σ n) (F : DF T σ n pl) (x3 : Nat) (q : Nat) (d : Int32) (post : Option Nat → PT → Prop) : ∀ m : Nat, m ≤ n 1 → post ((lastO (z_deep σ (nI q) d) m).map (ad 1)) S →
    ∃ f, w_X2_latestAsDeepAs_l5 x3 d post f S ((lastO (fun k => σ 41 k = nI q) m).map (ad 1)) := by
  intro m
  induction m with
  | zero =>
    intro _ h
    exact ⟨1, ⟨fun _ => h, fun a e => by cases e⟩⟩
  | succ m ih =>
    intro hm h
    rw [lastO] at h ⊢
    by_cases e : σ 41 m = nI q
    · have hm1 : m < n 1 := by omega
      obtain ⟨p0, p1, p2, p3, p4, -⟩ := F.1 m hm1
      have hw := H.2.2.2.2.2.2.1.2.2.2.1 m hm1
      obtain ⟨-, -, -, -, -, -, -, w7, -⟩ := (H.2.2.2.1 _ hw).1
      rw [iT_T e]
      have ep : lastO (fun l => σ 41 l = σ 41 m) m = lastO (fun k => σ 41 k = nI q) m := by rw [e]
      by_cases hd : d ≤ σ 28 (σ 42 m).toNatClampNeg
      · rw [iT_T (P := z_deep σ (nI q) d m) ⟨e, hd⟩] at h
        refine ⟨1, ?_⟩
        unfold w_X2_latestAsDeepAs_l5
        simp only [Option.map_some, reduceCtorEq, false_implies, true_and, Option.some.injEq, forall_eq', RC_o1 R (VC_1 hm1), p0, exists_eq_left', RC_o8 R (VC_8 hw), w7]
        exact ⟨fun hlt => by rw [← not_le32] at hlt; exact absurd hd hlt, fun _ => h⟩
      · rw [iT_F (P := z_deep σ (nI q) d m) (fun z => hd z.2)] at h
        obtain ⟨f, hf⟩ := ih (by omega) h
        refine ⟨f + 1, ?_⟩
        unfold w_X2_latestAsDeepAs_l5
        simp only [Option.map_some, reduceCtorEq, false_implies, true_and, Option.some.injEq, forall_eq', RC_o1 R (VC_1 hm1), p0, exists_eq_left', RC_o8 R (VC_8 hw), w7, p4, ep]
        exact ⟨fun _ => hf, fun hn => by rw [not_lt32] at hn; exact absurd hn hd⟩
    · rw [iT_F e]
      rw [iT_F (P := z_deep σ (nI q) d m) (fun z => e z.1)] at h
      exact ih (by omega) h
theorem k_latestAsDeepAs (R : RC ad (VC n (z_len σ)) S T) (H : DQ T σ n) (F : DF T σ n pl) {j i : Nat} (hj : j < n 5) (hi : i < z_len σ j) (d : Int32) {post : Option Nat → PT → Prop} (h : post ((lastO (z_deep σ (nI (40 * j + i)) d) (n 1)).map (ad 1)) S) : w_X2_latestAsDeepAs (ad 3 (40 * j + i)) d S post := by
  have h40 := (z_len_i H.2.2.2.2.2.2.2 j).2
  obtain ⟨-, -, -, m3⟩ := H.2.2.2.2.2.1 j i hj hi
  have o3 := RC_o3 R (VC_3 (len := z_len σ) hj hi (by omega))
  unfold w_X2_latestAsDeepAs
  refine ⟨o3.1, ?_⟩
  rw [o3.2.2.2.2, m3]
  exact k_deep_l R H F _ _ d post (n 1) (Nat.le_refl _) h
theorem k_whoIsLiable (R : RC ad (VC n (z_len σ)) S T) (H : DQ T σ n) (F : DF T σ n pl) {j i : Nat} (hj : j < n 5) (hi : i < z_len σ j) (d : Int32) {post : Option Nat → PT → Prop}
    (h : post (iT (z_liab σ j (nI (40 * j + i)) d (n 1) = -1) none (some (ad 8 (z_liab σ j (nI (40 * j + i)) d (n 1)).toNatClampNeg))) S) : w_X8_whoIsLiable (ad 9 0) (some (ad 5 j)) (some (ad 3 (40 * j + i))) d S post := by
  have h40 := (z_len_i H.2.2.2.2.2.2.2 j).2
  have o3 := RC_o3 R (VC_3 (len := z_len σ) hj hi (by omega))
  unfold w_X8_whoIsLiable
  refine ⟨_, rfl, o3.1, k_latestAsDeepAs R H F hj hi d ?_⟩
  unfold z_liab at h
  rw [laN_O] at h
  cases hf : lastO (z_deep σ (nI (40 * j + i)) d) (n 1) with
  | none =>
    rw [hf] at h
    unfold z_by at h
    simp only at h
    simp only [iT_tt] at h
    unfold w_X8_whoIsLiable_b33
    exact ⟨fun _ => h, fun a e => by cases e⟩
  | some k =>
    rw [hf] at h
    obtain ⟨hk, -⟩ := lastO_in _ _ _ hf
    have hk512 : k < 512 := by have := H.1.2.2.2.2.2.2.2.1; have := H.1.2.2.2.2.2.2.2.2; omega
    have hne : ¬ nI k = -1 := by rw [ieq, nI_toInt (by omega), show (-1 : Int32).toInt = -1 from by decide]; omega
    obtain ⟨p0, p1, p2, p3, p4, -⟩ := F.1 k hk
    have hw := H.2.2.2.2.2.2.1.2.2.2.1 k hk
    have sp := F.2 j k hj hk
    obtain ⟨w, ew, hw2, hw3⟩ := IB_nI H.2.2.2.2.2.2.2 42 k rfl
    have hwn : ¬ σ 42 k = -1 := by rw [ew, ieq, nI_toInt hw3, show (-1 : Int32).toInt = -1 from by decide]; omega
    unfold z_by at h
    simp only at h
    rw [iT_F (P := nI k = -1) hne, qn_nat (show k < 2147483648 by omega)] at h
    unfold w_X8_whoIsLiable_b33 w_X8_whoIsLiable_b55
    simp only [Option.map_some, reduceCtorEq, false_implies, true_and, Option.some.injEq, forall_eq', exists_eq_left', RC_o9 R VC_9, k_today R H, RC_o1 R (VC_1 hk), p0, p1, p3, RC_o8 R (VC_8 hw), k_daysLiable R hw (H.2.2.2.1 _ hw).1, RC_o5 R (VC_5 hj), sp]
    have done : z_old σ k ∨ (¬ 10 ≤ d ∧ ¬ σ 7 j ≤ nI k) → post none S := fun hc => by rw [iT_T hc, iT_T rfl] at h; exact h
    have good : ¬ (z_old σ k ∨ (¬ 10 ≤ d ∧ ¬ σ 7 j ≤ nI k)) → post (some (ad 8 (σ 42 k).toNatClampNeg)) S := fun hc => by rw [iT_F hc, iT_F hwn] at h; exact h
    refine ⟨fun ho => ?_, fun ho => done (Or.inl ho)⟩
    have hno : ¬ z_old σ k := fun z => z ho
    exact ⟨fun h10 => good (fun z => z.elim hno (fun y => y.1 h10)), fun h10 => ⟨fun hs => good (fun z => z.elim hno (fun y => y.2 hs)), fun hs => done (Or.inr ⟨h10, hs⟩)⟩⟩
end K
