/-! record, survey -/
section C
variable {ad : Nat → Nat → Nat} {S : PT} {T : CT} {σ : SG} {n : Nat → Nat} {μ : MU} {pl : Nat → Nat} {B E : Nat}
theorem k_susM (R : RC ad (VC n (z_len σ)) S T) (H : GI T σ μ n pl B E) {t : Nat} (ht : t < n 7) (post : Int32 → PT → Prop) : w_X6_suspectMetres (ad 7 t) S post = post (z_susN σ t) S := k_suspectMetres R H.1 H.2.2.1 ht post
theorem k_record (R : RC ad (VC n (z_len σ)) S T) (H : GI T σ μ n pl B E) (x a b c : Int32) {mc ms : Nat} (h1 : 1 ≤ mc) (h6 : 6 ≤ ms) {post : Int32 → PT → Prop} {postX : String → PT → Prop}
    (hx1 : q_record σ x a b c = 1 → postX "java/lang/IndexOutOfBoundsException" S) (hx2 : q_record σ x a b c = 2 → postX "java/lang/IllegalArgumentException" S)
    (h : q_record σ x a b c = 0 → ∀ S' T', RC ad (VC n (z_len σ)) S' T' → SM T T' → GI T' (u_record σ x a b c) μ n pl B E → post (z_susN (u_record σ x a b c) x.toNatClampNeg) S') : w_X8_record (ad 9 0) x a b c S mc ms post postX := by
  unfold w_X8_record w_X8_record_b36 w_X8_record_b62
  unfold q_record at hx1 hx2 h
  refine ⟨(RC_o9 R VC_9).1, ?_⟩
  rw [k_thingAt R H.1]
  by_cases hv : 0 ≤ x ∧ x ≤ σ 14 0 - 1
  · rw [iT_T hv]
    obtain ⟨t, ht, rfl, ht2⟩ := th_n H.1 hv
    rw [qn_nat ht2] at h hx1 hx2 ⊢
    refine ⟨fun e => (by cases e), fun a7 e7 => ?_⟩
    cases e7
    obtain ⟨-, d1, -⟩ := H.1.2.2.2.2.1 t ht
    have hs := (H.1.2.2.2.2.2.2.1.2.1 t ht).1
    have hm : ∀ y, z_mt σ (σ 16 t) y ↔ 0 ≤ y ∧ y ≤ σ 2 (σ 16 t).toNatClampNeg - 1 := by
      intro y
      refine ⟨fun z => z.2, fun z => ⟨?_, z⟩⟩
      obtain ⟨s, es, -, hs2⟩ := IB_nI H.1.2.2.2.2.2.2.2 16 t rfl
      rw [es, qn_nat hs2] at hs
      have h6 := H.1.1.2.1
      rw [es, H.1.1.1, ile, ile, tsub, nI_toInt hs2, nI_toInt (by omega), I0, show (1 : Int32).toInt = 1 from by decide]
      omega
    have bad : ¬ (z_mt σ (σ 16 t) a ∧ z_mt σ (σ 16 t) b) → 0 ≤ mc ∧ 0 ≤ ms ∧ 0 + 1 ≤ mc ∧ 0 + 6 ≤ ms ∧ postX "java/lang/IndexOutOfBoundsException" S := fun hn => ⟨by omega, by omega, by omega, by omega, hx1 (iT_T (fun z => hn z.2))⟩
    have o7 := RC_o7 R (VC_7 (len := z_len σ) ht)
    have p7 : gP S 701 (ad 7 t) = some (ad 5 (σ 16 t).toNatClampNeg) := by rw [o7.2.2.1, d1]; rfl
    have o5 := RC_o5 R (VC_5 (len := z_len σ) hs)
    refine ⟨o7.1, _, p7, o5.1, ?_⟩
    rw [k_metreAt R H.1 hs]
    by_cases ha : 0 ≤ a ∧ a ≤ σ 2 (σ 16 t).toNatClampNeg - 1
    · rw [iT_T ha]
      refine ⟨fun e => (by cases e), fun a3 e3 => ⟨o7.1, _, p7, o5.1, ?_⟩⟩
      rw [k_metreAt R H.1 hs]
      by_cases hb : 0 ≤ b ∧ b ≤ σ 2 (σ 16 t).toNatClampNeg - 1
      · rw [iT_T hb]
        rw [iT_F (show ¬ ¬ _ from fun z => z ⟨hv, (hm a).mpr ha, (hm b).mpr hb⟩)] at h hx2
        have bad2 : (b < a ∨ ¬ (0 ≤ c ∧ c ≤ 3)) → 0 ≤ mc ∧ 0 ≤ ms ∧ 0 + 1 ≤ mc ∧ 0 + 6 ≤ ms ∧ postX "java/lang/IllegalArgumentException" S := fun hn => ⟨by omega, by omega, by omega, by omega, hx2 (iT_T hn)⟩
        refine ⟨fun e => (by cases e), fun a3 e3 => ⟨fun hl => bad2 (Or.inl hl), fun hl => ⟨fun hc => bad2 (Or.inr (fun z => by have := z.1; rw [← not_lt32] at this; exact this hc)), fun hc => ⟨fun hc3 => ⟨o7.1, ?_⟩, fun hc3 => bad2 (Or.inr (fun z => hc3 z.2))⟩⟩⟩⟩
        have hcc : 0 ≤ c ∧ c ≤ 3 := ⟨by rw [← not_lt32]; exact hc, hc3⟩
        have hab : a ≤ b := by rw [← not_lt32]; exact hl
        have eu : u_record σ (nI t) a b c = u_rec σ t a b c := by unfold u_record u_rec; rw [qn_nat ht2]
        rw [eu] at h
        have G := gp_rec (pl := pl) (B := B) (E := E) (μ := μ) H ht ha.1 hab hb.2 hcc
        refine k_putRecord R H.1 ht a b c (fun S2 R2 => ?_)
        have hl2 : z_len (u_rec σ t a b c) = z_len σ := z_len_c (fun i => by unfold u_rec; rw [up2_f _ _ _ _ (by decide), up2_f _ _ _ _ (by decide), up2_f _ _ _ _ (by decide), up2_f _ _ _ _ (by decide)])
        refine ⟨(RC_o7 R2 (VC_7 ht)).1, ?_⟩
        have R2' := R2
        rw [← hl2] at R2'
        rw [k_susM R2' G ht]
        exact h (iT_F (fun z => z.elim hl (fun y => y hcc))) S2 _ R2 ⟨rfl, rfl, rfl⟩ G
      · rw [iT_F hb]
        exact ⟨fun _ => bad (fun z => hb ((hm b).mp z.2)), fun a3 e3 => (by cases e3)⟩
    · rw [iT_F ha]
      exact ⟨fun _ => bad (fun z => ha ((hm a).mp z.1)), fun a3 e3 => (by cases e3)⟩
  · rw [iT_F hv]
    exact ⟨fun _ => ⟨by omega, by omega, by omega, by omega, hx1 (iT_T (fun z => hv z.1))⟩, fun a e => (by cases e)⟩
theorem k_lies_l (R : RC ad (VC n (z_len σ)) S T) (H : DQ T σ n) {t g : Nat} (ht : t < n 7) (eg : σ 18 t = nI g) (hg : g < z_len σ (σ 16 t).toNatClampNeg) (post : Int32 → PT → Prop) : ∀ (d i : Nat), i + d = g + 1 → (σ 17 t).toInt ≤ i → (∀ l, l < i → ¬ z_sure σ t l) →
    w_X6_liesInSureMetre_l5 (ad 7 t) post (d + 1) S (nI i) = post (bI (aN (z_sure σ t) 40)) S := by
  have hs := (H.2.2.2.2.2.2.1.2.1 t ht).1
  have hl := z_len_i H.2.2.2.2.2.2.2 (σ 16 t).toNatClampNeg
  obtain ⟨-, d1, d2, d3, -⟩ := H.2.2.2.2.1 t ht
  intro d
  induction d with
  | zero =>
    intro i hi _ hn
    unfold w_X6_liesInSureMetre_l5
    have c : nI g < nI i := by rw [qn_lt (by omega) (by omega)]; omega
    simp only [RC_o7 R (VC_7 ht), d3, eg, c, true_and, true_implies, not_true, false_implies, and_true]
    rw [bI_F]
    rintro ⟨l, hl4, h⟩
    by_cases hli : l < i
    · exact hn l hli h
    · have := h.1.2
      rw [eg, qn_le (by omega) (by omega)] at this
      omega
  | succ d ih =>
    intro i hi hf hn
    unfold w_X6_liesInSureMetre_l5 w_X6_liesInSureMetre_b35
    have c : ¬ nI g < nI i := by rw [qn_lt (by omega) (by omega)]; omega
    have hil : i < z_len σ (σ 16 t).toNatClampNeg := by omega
    have o3 := RC_o3 R (VC_3 (len := z_len σ) hs hil (by omega))
    obtain ⟨m0, -, -, -⟩ := H.2.2.2.2.2.1 _ i hs hil
    have hm : 0 ≤ nI i ∧ nI i ≤ σ 2 (σ 16 t).toNatClampNeg - 1 := by
      rw [hl.1, ile, ile, tsub, nI_toInt (by omega), nI_toInt (by omega), I0, show (1 : Int32).toInt = 1 from by decide]
      omega
    simp only [RC_o7 R (VC_7 ht), d1, d3, eg, c, Option.map_some, Option.some.injEq, exists_eq_left', RC_o5 R (VC_5 hs), k_metreAt R H hs, iT_T hm, true_and, true_implies, not_true, false_implies, and_true, not_false_eq_true, qn_nat (show i < 2147483648 by omega), reduceCtorEq, forall_eq', o3, m0, qn_s]
    have si : z_sure σ t i ↔ ¬ σ 12 (40 * (σ 16 t).toNatClampNeg + i) = 0 := by
      unfold z_sure
      refine ⟨fun z => z.2, fun z => ⟨⟨?_, ?_⟩, z⟩⟩
      · rw [ile, nI_toInt (by omega)]; exact hf
      · rw [eg, qn_le (by omega) (by omega)]; omega
    by_cases h12 : σ 12 (40 * (σ 16 t).toNatClampNeg + i) = 0
    · rw [ih (i + 1) (by omega) (by omega) (fun l hl => by
        by_cases e : l = i
        · rw [e]; exact fun z => si.mp z h12
        · exact hn l (by omega))]
      simp [h12]
    · rw [bI_T (P := aN (z_sure σ t) 40) ⟨i, by omega, si.mpr h12⟩]
      simp [h12]
theorem k_liesInSure (R : RC ad (VC n (z_len σ)) S T) (H : DQ T σ n) {t : Nat} (ht : t < n 7) {post : Int32 → PT → Prop} (h : post (bI (aN (z_sure σ t) 40)) S) : w_X6_liesInSureMetre (ad 7 t) S post := by
  have B := H.2.2.2.2.2.2.2
  obtain ⟨f, ef, hf, hf2⟩ := IB_nI B 17 t rfl
  obtain ⟨g, eg, hg, hg2⟩ := IB_nI B 18 t rfl
  obtain ⟨-, ho, hlt⟩ := H.2.2.2.2.2.2.1.2.1 t ht
  rw [eg, qn_nat hg2] at hlt
  rw [ef, eg, qn_le hf2 hg2] at ho
  obtain ⟨-, d1, d2, d3, -⟩ := H.2.2.2.2.1 t ht
  unfold w_X6_liesInSureMetre
  have o7 := RC_o7 R (VC_7 (len := z_len σ) ht)
  refine ⟨o7.1, g + 1 - f + 1, ?_⟩
  rw [o7.2.2.2.1, d2, ef]
  rw [k_lies_l R H ht eg hlt post (g + 1 - f) f (by omega) (by rw [ef, nI_toInt hf2]; exact Int.le_refl _) (fun l hl z => by
    have := z.1.1
    rw [ef, qn_le (by omega) (by omega)] at this
    omega)]
  exact h
theorem k_survey (R : RC ad (VC n (z_len σ)) S T) (H : GI T σ μ n pl B E) (x : Int32) {mc ms : Nat} (h1 : 1 ≤ mc) (h6 : 6 ≤ ms) {post : Int32 → PT → Prop} {postX : String → PT → Prop}
    (hx1 : q_survey σ x = 1 → postX "java/lang/IndexOutOfBoundsException" S) (hx2 : q_survey σ x = 2 → postX "java/lang/IllegalStateException" S)
    (h : q_survey σ x = 0 → ∀ S' T', RC ad (VC n (z_len σ)) S' T' → SM T T' → GI T' (u_survey σ x) μ n pl B E → post (z_susN σ x.toNatClampNeg) S') : w_X8_survey (ad 9 0) x S mc ms post postX := by
  unfold w_X8_survey
  unfold q_survey at hx1 hx2 h
  refine ⟨(RC_o9 R VC_9).1, ?_⟩
  rw [k_thingAt R H.1]
  by_cases hv : 0 ≤ x ∧ x ≤ σ 14 0 - 1
  · rw [iT_T hv]
    obtain ⟨t, ht, rfl, ht2⟩ := th_n H.1 hv
    rw [iT_F (show ¬ ¬ _ from fun z => z hv)] at h hx2
    rw [qn_nat ht2] at h hx2 ⊢
    refine ⟨fun e => (by cases e), fun a7 e7 => ?_⟩
    cases e7
    have o7 := RC_o7 R (VC_7 (len := z_len σ) ht)
    obtain ⟨-, d1, d2, d3, -⟩ := H.1.2.2.2.2.1 t ht
    refine ⟨o7.1, k_liesInSure R H.1 ht ?_⟩
    rw [bI_0]
    refine ⟨fun hs => ?_, fun hs => ⟨by omega, by omega, hx2 (iT_T hs)⟩⟩
    refine ⟨o7.1, ?_⟩
    rw [k_susM R H ht]
    refine ⟨o7.1, ?_⟩
    rw [o7.2.2.2.1, o7.2.2.2.2.1, d2, d3]
    have eu : u_survey σ (nI t) = u_rec σ t (σ 17 t) (σ 18 t) 0 := by unfold u_survey u_rec; rw [qn_nat ht2]
    rw [eu] at h
    refine k_putRecord R H.1 ht _ _ _ (fun S2 R2 => h (iT_F hs) S2 _ R2 ⟨rfl, rfl, rfl⟩ (gp_rec H ht ?_ ?_ ?_ ?_))
    · have := (H.1.2.2.2.2.2.2.2 17 t).1
      rw [ile, I0]; exact this
    · exact (H.1.2.2.2.2.2.2.1.2.1 t ht).2.1
    · have hl := z_len_i H.1.2.2.2.2.2.2.2 (σ 16 t).toNatClampNeg
      obtain ⟨g, eg, hg, hg2⟩ := IB_nI H.1.2.2.2.2.2.2.2 18 t rfl
      have hlt := (H.1.2.2.2.2.2.2.1.2.1 t ht).2.2
      rw [eg, qn_nat hg2] at hlt
      rw [eg, hl.1, ile, tsub, nI_toInt hg2, nI_toInt (by omega), show (1 : Int32).toInt = 1 from by decide]
      omega
    · exact ⟨by decide, by decide⟩
  · rw [iT_F hv]
    exact ⟨fun _ => ⟨by omega, by omega, hx1 (iT_T hv)⟩, fun a e => (by cases e)⟩
end C
