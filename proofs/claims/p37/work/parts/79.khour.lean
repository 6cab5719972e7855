/-! an hour of the class: permits that settle, late works -/
theorem z_bars_0 (σ : SG) (k nW : Nat) : z_bars σ k nW ≤ 0 ↔ z_bars σ k nW = 0 := by
  have p : ∀ v : Int32, (v = 0 ∨ v = 1 ∨ v = 2 ∨ v = 3) → (v ≤ 0 ↔ v = 0) := by
    rintro v (rfl | rfl | rfl | rfl) <;> decide
  refine p _ ?_
  unfold z_bars
  exact iT_ind (fun v : Int32 => v = 0 ∨ v = 1 ∨ v = 2 ∨ v = 3) (fun _ => Or.inl rfl) (fun _ => iT_ind (fun v : Int32 => v = 0 ∨ v = 1 ∨ v = 2 ∨ v = 3) (fun _ => Or.inr (Or.inl rfl)) (fun _ => iT_ind (fun v : Int32 => v = 0 ∨ v = 1 ∨ v = 2 ∨ v = 3) (fun _ => Or.inr (Or.inr (Or.inl rfl))) (fun _ => iT_ind (fun v : Int32 => v = 0 ∨ v = 1 ∨ v = 2 ∨ v = 3) (fun _ => Or.inr (Or.inr (Or.inr rfl))) (fun _ => Or.inl rfl))))
section C
variable {ad : Nat → Nat → Nat} {S : PT} {T : CT} {σ : SG} {n len : Nat → Nat} {μ : MU} {pl : Nat → Nat} {B E : Nat}
theorem g_tick (H : GI T σ μ n pl B E) (hh : (σ 0 0).toInt < 9999) : GI (uI T 909 0 (σ 0 0 + 1)) (up2 σ 0 0 (σ 0 0 + 1)) μ n pl B E := by
  obtain ⟨⟨h1, h9, h5, h8, h7, h3, hv, hb⟩, ⟨hd, hs⟩, hr, h4, hl, hta, htb, fa, fb, fc, fd, fe, ff, fg, fh, fi⟩ := H
  have eS : ∀ f, ¬ (f = 0) → up2 σ 0 0 (σ 0 0 + 1) f = σ f := fun f h => sg_o h
  have eI : ∀ F, ¬ (F = 909) → tI (uI T 909 0 (σ 0 0 + 1)) F = tI T F := fun F h => sg_o (σ := tI T) h
  have eP : ∀ F9, ¬ False → tP (uI T 909 0 (σ 0 0 + 1)) F9 = tP T F9 := fun _ _ => rfl
  have eN : ∀ F9, ¬ False → tN (uI T 909 0 (σ 0 0 + 1)) F9 = tN T F9 := fun _ _ => rfl
  have eR : ∀ F9, ¬ False → tR (uI T 909 0 (σ 0 0 + 1)) F9 = tR T F9 := fun _ _ => rfl
  have eA : tA (uI T 909 0 (σ 0 0 + 1)) = tA T := rfl
  have eJ : tJ (uI T 909 0 (σ 0 0 + 1)) = tJ T := rfl
  have eM : μ = μ := rfl
  refine ⟨⟨(DN_c (by rw [eS 1 (by first | omega | exact not_false)]) (by rw [eS 14 (by first | omega | exact not_false)]) (by rw [eS 23 (by first | omega | exact not_false)]) (by rw [eS 40 (by first | omega | exact not_false)]) h1), ?_, (fun j hj => D5_c (fun F hF _ _ => by rw [eI F (by first | omega | exact not_false)]) (fun F hF => by rw [eP F (by first | omega | exact not_false)]) (by rw [eN 15 (by first | omega | exact not_false)]) (by rw [eR 15 (by first | omega | exact not_false)]) (fun f a b _ => by rw [eS f (by first | omega | exact not_false)]) (h5 j hj)), (fun k hk => ⟨D8_c (fun F hF => by rw [eI F (by first | omega | exact not_false)]) (fun F hF => by rw [eP F (by first | omega | exact not_false)]) (fun f a b => by rw [eS f (by first | omega | exact not_false)]) (by unfold z_opens; rw [eS 13 (by first | omega | exact not_false)]) (h8 k hk).1, D8a_c (by rw [eI 814 (by first | omega | exact not_false)]) (eS 39 (by first | omega | exact not_false)) (h8 k hk).2⟩), (fun t ht => D7_c (fun F hF => by rw [eI F (by first | omega | exact not_false)]) (fun F hF => by rw [eP F (by first | omega | exact not_false)]) (fun f a b => by rw [eS f (by first | omega | exact not_false)]) (eS 2 (by first | omega | exact not_false)) (h7 t ht)), (fun j i hj hi => D3_c (fun F hF => by rw [eI F (by first | omega | exact not_false)]) (by rw [eP 303 (by first | omega | exact not_false)]) (by rw [eS 12 (by first | omega | exact not_false)]) (by rw [eS 13 (by first | omega | exact not_false)]) (eS 41 (by first | omega | exact not_false)) (h3 j i hj (by rw [show z_len _ = z_len σ from z_len_c (fun j => by rw [eS 2 (by first | omega | exact not_false)])] at hi; exact hi))), (DV_c (fun f hf => eS f (by first | omega | exact not_false)) hv), ?_⟩, ⟨(fun k hk => D1_c (fun F hF => by rw [eI F (by first | omega | exact not_false)]) (fun F hF => by rw [eP F (by first | omega | exact not_false)]) (fun f a b => eS f (by first | omega | exact not_false)) (hd k hk)), (DS_c (eI 508 (by first | omega | exact not_false)) (eS 7 (by first | omega | exact not_false)) hs)⟩, (DR_c (fun f hf => eS f (by first | omega | exact not_false)) hr), (fun p hp => D4_c (by rw [eJ]) (fun F hF => by rw [eI F (by first | omega | exact not_false)]) (by rw [eM]) (eS 24 (by first | omega | exact not_false)) (eS 42 (by first | omega | exact not_false)) (by rw [eS 46 (by first | omega | exact not_false)]) (by rw [eS 47 (by first | omega | exact not_false)]) (h4 p hp)), (DL_c (eI 201 (by first | omega | exact not_false)) (eP 200 (by first | omega | exact not_false)) (eN 12 (by first | omega | exact not_false)) eA eM hl), (DTa_c (fun F hF => eI F (by first | omega | exact not_false)) (fun F hF => eP F (by first | omega | exact not_false)) (fun f hf => eS f (by first | omega | exact not_false)) hta), (DTb_c (eI 1102 (by first | omega | exact not_false)) (eP 1101 (by first | omega | exact not_false)) (eN 20 (by first | omega | exact not_false)) (eR 20 (by first | omega | exact not_false)) htb), (FRa_c (fun f hf => eS f (by first | omega | exact not_false)) fa), (FRb_c (eS 2 (by first | omega | exact not_false)) (eS 12 (by first | omega | exact not_false)) fb), (FRc_c (eS 20 (by first | omega | exact not_false)) fc), (FRd_c (fun f hf => eS f (by first | omega | exact not_false)) fd), (FRe_c (eS 13 (by first | omega | exact not_false)) fe), (FRf_c (eS 39 (by first | omega | exact not_false)) ff), (FRg_c (eS 45 (by first | omega | exact not_false)) fg), (FRh_c (eS 7 (by first | omega | exact not_false)) (eS 40 (by first | omega | exact not_false)) fh), (FRi_c (eS 46 (by first | omega | exact not_false)) fi)⟩
  · obtain ⟨b0, b1, b2, b3, b4⟩ := h9
    unfold D9
    rw [eI 901 (by omega), eI 903 (by omega), eI 905 (by omega), up2_s]
    exact ⟨b0, b1, b2, tI_s, b4⟩
  · have hb0 : (0 : Int) ≤ (σ 0 0).toInt := (hb 0 0).1
    refine IB_up hb 0 0 ?_ ?_
    · show (0 : Int) ≤ _
      rw [tadd, show (1 : Int32).toInt = 1 from by decide]; omega
    · show _ ≤ (9999 : Int)
      rw [tadd, show (1 : Int32).toInt = 1 from by decide]; omega
theorem g_settle_l {l0 : Nat → Nat} {x0 : AS} : ∀ (d i : Nat) (T : CT) (x : AS) (B1 : Nat), i + d = 24 → z_len x.1 = l0 → GI T x.1 x.2 n pl B1 E → B1 + d ≤ 262144 → x = z_set x0 (n 8) (min i (n 8)) →
    ∃ T', GI T' (z_set x0 (n 8) (n 8)).1 (z_set x0 (n 8) (n 8)).2 n pl (B1 + d) E ∧ SW T T' ∧ tN T 12 0 ≤ tN T' 12 0 ∧ ∀ (ad : Nat → Nat → Nat) (S : PT) (mc ms c0 n0 : Nat) (post : PT → Prop), RC ad (VC n l0) S T → c0 + (tN T' 12 0 - tN T 12 0) ≤ mc → n0 + 2 * (tN T' 12 0 - tN T 12 0) ≤ ms →
    (∀ ad' S', RC ad' (VC n l0) S' T' → (∀ l j, l ≠ 12 → ad' l j = ad l j) → post S') → w_X8_settleAsked_l2 (ad 9 0) mc ms post (d + 1) c0 n0 S (nI i) := by
  intro d
  induction d with
  | zero =>
    intro i T x B1 hi hl G hB hx
    have h24 : n 8 ≤ 24 := G.1.1.2.2.2.2.2.1
    have e1 : i = 24 := by omega
    subst e1
    rw [Nat.min_eq_right h24] at hx
    subst hx
    refine ⟨T, G, ⟨rfl, rfl⟩, Nat.le_refl _, ?_⟩
    intro ad S mc ms c0 n0 post R hc hn h
    unfold w_X8_settleAsked_l2
    obtain ⟨-, -, -, -, -, -, d0, -, -, -, -, -, d1, -⟩ := G.1.2.1
    have o9 := RC_o9 R (VC_9 (n := n) (len := l0))
    have o19 := RC_a19 R (VC_19 (n := n) (len := l0))
    refine ⟨by omega, by omega, o9.1, ad 19 0, by rw [o9.2.2.2.2.2.1, d0]; rfl, o19.1, ?_⟩
    rw [o19.2.1, d1]
    exact ⟨fun _ => h ad S R (fun _ _ _ => rfl), fun hc => absurd (by decide) hc⟩
  | succ d ih =>
    intro i T x B1 hi hl G hB hx
    have h24 : n 8 ≤ 24 := G.1.1.2.2.2.2.2.1
    have step : ∃ T1 x1 B2, GI T1 x1.1 x1.2 n pl B2 E ∧ B2 ≤ B1 + 1 ∧ z_len x1.1 = l0 ∧ x1 = z_set x0 (n 8) (min (i + 1) (n 8)) ∧ SW T T1 ∧ tN T 12 0 ≤ tN T1 12 0 ∧
        (i < n 8 → x.1 33 i = 0 → z_today x.1 = x.1 32 i + iT (x.1 29 i = 2) 2 5 → z_bars x.1 i (n 8) = 0 → PMe n l0 T T1 (fun ad S mc ms post => w_X8_permit (ad 9 0) (some (ad 8 i)) 0 S mc ms post)) ∧
        (i < n 8 → x.1 33 i = 0 → z_today x.1 = x.1 32 i + iT (x.1 29 i = 2) 2 5 → ¬ z_bars x.1 i (n 8) = 0 → T1 = uI T 810 i 2) ∧ (¬ (i < n 8 ∧ x.1 33 i = 0 ∧ z_today x.1 = x.1 32 i + iT (x.1 29 i = 2) 2 5) → T1 = T) := by
      by_cases hin : i < n 8
      · rw [Nat.min_eq_left (show i ≤ n 8 by omega)] at hx
        rw [Nat.min_eq_left (show i + 1 ≤ n 8 by omega)]
        have ez : z_set x0 (n 8) (i + 1) = z_set1 x i (n 8) := by rw [z_set, ← hx]
        rw [ez]
        unfold z_set1
        by_cases hc : x.1 33 i = 0 ∧ z_today x.1 = x.1 32 i + iT (x.1 29 i = 2) 2 5
        · by_cases hz : z_bars x.1 i (n 8) = 0
          · obtain ⟨T1, G1, sw, cc⟩ := g_permit G (show B1 < 262144 by omega) hin (c := 0) ⟨by decide, by decide⟩
            rw [hl] at cc
            rw [iT_T hc, iT_T ((z_bars_0 _ _ _).mpr hz)]
            refine ⟨T1, _, B1 + 1, G1, Nat.le_refl _, ?_, rfl, sw, cc.1, fun _ _ _ _ => cc, fun _ _ _ h => absurd hz h, fun h => absurd ⟨hin, hc⟩ h⟩
            rw [← hl]; exact z_len_c (fun j => by show up2 (up2 x.1 33 i 1) 34 i 0 2 j = _; rw [up2_f _ _ _ _ (by decide), up2_f _ _ _ _ (by decide)])
          · rw [iT_T hc, iT_F (fun h => hz ((z_bars_0 _ _ _).mp h))]
            refine ⟨uI T 810 i 2, _, B1, gp_wk (v := 2) G hin (Or.inl ⟨rfl, rfl⟩) (by decide) (by decide), by omega, ?_, rfl, ⟨rfl, rfl⟩, Nat.le_refl _, fun _ _ _ h => absurd h hz, fun _ _ _ _ => rfl, fun h => absurd ⟨hin, hc⟩ h⟩
            rw [← hl]; exact z_len_c (fun j => by show up2 x.1 33 i 2 2 j = _; rw [up2_f _ _ _ _ (by decide)])
        · rw [iT_F hc]
          exact ⟨T, x, B1, G, by omega, hl, rfl, ⟨rfl, rfl⟩, Nat.le_refl _, fun _ a b _ => absurd ⟨a, b⟩ hc, fun _ a b _ => absurd ⟨a, b⟩ hc, fun _ => rfl⟩
      · rw [Nat.min_eq_right (show n 8 ≤ i by omega)] at hx
        rw [Nat.min_eq_right (show n 8 ≤ i + 1 by omega)]
        exact ⟨T, x, B1, G, by omega, hl, hx, ⟨rfl, rfl⟩, Nat.le_refl _, fun h => absurd h hin, fun h => absurd h hin, fun _ => rfl⟩
    obtain ⟨T1, x1, B2, G1, hB2, hl1, hx1, sw1, cap1, c1, c2, c3⟩ := step
    obtain ⟨T', G', sw2, cap2, cc⟩ := ih (i + 1) T1 x1 B2 (by omega) hl1 G1 (by omega) hx1
    refine ⟨T', GI_up (by omega) (Nat.le_refl _) G', SW_t sw1 sw2, Nat.le_trans cap1 cap2, ?_⟩
    intro ad S mc ms c0 n0 post R hc hn h
    unfold w_X8_settleAsked_l2 w_X8_settleAsked_b62
    obtain ⟨-, -, -, -, -, -, d0, -, -, -, -, -, d1, -, -, -, d2, -⟩ := G.1.2.1
    have o9 := RC_o9 R (VC_9 (n := n) (len := l0))
    have o19 := RC_a19 R (VC_19 (n := n) (len := l0))
    have c : ¬ nI 24 ≤ nI i := by rw [qn_le (by omega) (by omega)]; omega
    refine ⟨by omega, by omega, o9.1, ad 19 0, by rw [o9.2.2.2.2.2.1, d0]; rfl, o19.1, ?_⟩
    rw [o19.2.1, d1, o19.2.2, qn_nat (show i < 2147483648 by omega), d2]
    refine ⟨fun hc => absurd hc c, fun _ => ⟨vin_nI (by omega) (by decide), ?_⟩⟩
    have skip : ¬ (i < n 8 ∧ x.1 33 i = 0 ∧ z_today x.1 = x.1 32 i + iT (x.1 29 i = 2) 2 5) → c0 ≤ mc ∧ n0 ≤ ms ∧ w_X8_settleAsked_l2 (ad 9 0) mc ms post (d + 1) c0 n0 S (nI i + 1) := by
      intro hno
      have eT := c3 hno
      rw [eT] at cc
      rw [qn_s]
      exact ⟨by omega, by omega, cc ad S mc ms c0 n0 post R hc hn h⟩
    by_cases hin : i < n 8
    · rw [iT_T hin]
      have R0 := R
      rw [← hl] at R0
      have o8 := RC_o8 R (VC_8 (n := n) (len := l0) hin)
      have D := (G.1.2.2.2.1 i hin).1
      have d10 : tI T 810 i = x.1 33 i := D.2.2.2.2.2.2.2.2.2.2.1
      refine ⟨fun e => (by cases e), fun a6 e6 => ⟨?_, ?_⟩⟩
      · cases e6; exact o8.1
      cases e6
      rw [o8.2.2.2.2.2.2.2.2.2.2.2.1, d10]
      refine ⟨fun h3 => skip (fun z => h3 z.2.1), fun h3 => ?_⟩
      rw [k_settledOn R0 hin D]
      refine ⟨o9.1, ?_⟩
      rw [k_today R0 G.1]
      refine ⟨fun ht => skip (fun z => ht z.2.2.symm), fun ht => ⟨o9.1, ?_⟩⟩
      refine k_whatBars R0 G.1 hin ⟨fun hz => ⟨o8.1, ?_⟩, fun hz => ⟨o9.1, tN T1 12 0 - tN T 12 0, 2 * (tN T1 12 0 - tN T 12 0), by omega, by omega, ?_⟩⟩
      · have eT := c2 hin h3 ht.symm hz
        refine RC_uI R (VC_8 hin) 10 rfl (by decide) (by decide) (fun S1 R1 => ⟨by omega, by omega, ?_⟩)
        have R1' : RC ad (VC n l0) S1 T1 := by rw [eT]; exact R1
        rw [qn_s]
        exact cc ad S1 mc ms c0 n0 post R1' (by omega) (by omega) h
      · refine (c1 hin h3 ht.symm hz).2 ad S _ _ _ R (Nat.le_refl _) (Nat.le_refl _) (fun ad1 S1 R1 e1 => ⟨by omega, by omega, ?_⟩)
        rw [qn_s, ← e1 9 0 (by decide)]
        exact cc ad1 S1 mc ms _ _ post R1 (by omega) (by omega) (fun ad' S' R' e' => h ad' S' R' (fun l j hl => (e' l j hl).trans (e1 l j hl)))
    · rw [iT_F hin]
      exact ⟨fun _ => skip (fun z => hin z.1), fun a e => (by cases e)⟩
theorem grade_b (H : IB σ) (j : Nat) : (4 - σ 3 j).toInt = 1 ∨ (4 - σ 3 j).toInt = 2 ∨ (4 - σ 3 j).toInt = 3 ∨ (4 - σ 3 j).toInt = 4 := by
  have b := H 3 j
  simp only [bl, bh] at b
  simp at b
  rw [tsub, show (4 : Int32).toInt = 4 from by decide]
  omega
theorem g_fine_l {l0 : Nat → Nat} {μ0 : MU} (hl : z_len σ = l0) : ∀ (d i : Nat) (T : CT) (μ1 : MU) (B1 : Nat), i + d = 24 → GI T σ μ1 n pl B1 E → B1 + d ≤ 262144 → μ1 = z_fin σ μ0 (min i (n 8)) →
    ∃ T', GI T' σ (z_fin σ μ0 (n 8)) n pl (B1 + d) E ∧ SW T T' ∧ tN T 12 0 ≤ tN T' 12 0 ∧ ∀ (ad : Nat → Nat → Nat) (S : PT) (mc ms c0 n0 : Nat) (post : PT → Prop), RC ad (VC n l0) S T → c0 + (tN T' 12 0 - tN T 12 0) ≤ mc → n0 + 2 * (tN T' 12 0 - tN T 12 0) ≤ ms →
    (∀ ad' S', RC ad' (VC n l0) S' T' → (∀ l j, l ≠ 12 → ad' l j = ad l j) → post S') → w_X8_fineLate_l2 (ad 9 0) mc ms post (d + 1) c0 n0 S (nI i) := by
  intro d
  induction d with
  | zero =>
    intro i T μ1 B1 hi G hB hx
    have h24 : n 8 ≤ 24 := G.1.1.2.2.2.2.2.1
    have e1 : i = 24 := by omega
    subst e1
    rw [Nat.min_eq_right h24] at hx
    subst hx
    refine ⟨T, G, ⟨rfl, rfl⟩, Nat.le_refl _, ?_⟩
    intro ad S mc ms c0 n0 post R hc hn h
    unfold w_X8_fineLate_l2
    obtain ⟨-, -, -, -, -, -, d0, -, -, -, -, -, d1, -⟩ := G.1.2.1
    have o9 := RC_o9 R (VC_9 (n := n) (len := l0))
    have o19 := RC_a19 R (VC_19 (n := n) (len := l0))
    refine ⟨by omega, by omega, o9.1, ad 19 0, by rw [o9.2.2.2.2.2.1, d0]; rfl, o19.1, ?_⟩
    rw [o19.2.1, d1]
    exact ⟨fun _ => h ad S R (fun _ _ _ => rfl), fun hc => absurd (by decide) hc⟩
  | succ d ih =>
    intro i T μ1 B1 hi G hB hx
    have h24 : n 8 ≤ 24 := G.1.1.2.2.2.2.2.1
    have Hb := G.1.2.2.2.2.2.2.2
    have step : ∃ T1 μ2 B2, GI T1 σ μ2 n pl B2 E ∧ B2 ≤ B1 + 1 ∧ μ2 = z_fin σ μ0 (min (i + 1) (n 8)) ∧ SW T T1 ∧ tN T 12 0 ≤ tN T1 12 0 ∧
        (i < n 8 → σ 33 i = 3 → ¬ z_today σ ≤ z_last σ i → PMe n l0 T T1 (fun ad S mc ms post => w_X8_pay (ad 9 0) (σ 24 i) 5 (500 * (4 - σ 3 (σ 25 i).toNatClampNeg)) S mc ms post)) ∧
        (¬ (i < n 8 ∧ σ 33 i = 3 ∧ ¬ z_today σ ≤ z_last σ i) → T1 = T) := by
      by_cases hin : i < n 8
      · rw [Nat.min_eq_left (show i ≤ n 8 by omega)] at hx
        rw [Nat.min_eq_left (show i + 1 ≤ n 8 by omega)]
        unfold z_fin
        by_cases hc : σ 33 i = 3 ∧ ¬ z_today σ ≤ z_last σ i
        · obtain ⟨p, hp, ep, ep2⟩ := pr_n Hb i
          have gb := grade_b Hb (σ 25 i).toNatClampNeg
          have ab : 0 ≤ (500 * (4 - σ 3 (σ 25 i).toNatClampNeg)).toInt ∧ (500 * (4 - σ 3 (σ 25 i).toNatClampNeg)).toInt ≤ 2000 := by
            rw [tmul, show (500 : Int32).toInt = 500 from by decide]
            rcases gb with g | g | g | g <;> (rw [g]; decide)
          obtain ⟨T1, G1, sl, cc⟩ := g_pay G (show B1 < 262144 by omega) (show p < 6 by omega) (show 5 < 6 by decide) ab.1 ab.2
          rw [hl] at cc
          rw [iT_T hc, ep2, ← hx]
          exact ⟨T1, _, B1 + 1, G1, Nat.le_refl _, rfl, SL_W sl, cc.1, fun _ _ _ => by rw [ep]; exact cc, fun h => absurd ⟨hin, hc⟩ h⟩
        · rw [iT_F hc]
          exact ⟨T, μ1, B1, G, by omega, hx, ⟨rfl, rfl⟩, Nat.le_refl _, fun _ a b => absurd ⟨a, b⟩ hc, fun _ => rfl⟩
      · rw [Nat.min_eq_right (show n 8 ≤ i by omega)] at hx
        rw [Nat.min_eq_right (show n 8 ≤ i + 1 by omega)]
        exact ⟨T, μ1, B1, G, by omega, hx, ⟨rfl, rfl⟩, Nat.le_refl _, fun h => absurd h hin, fun _ => rfl⟩
    obtain ⟨T1, μ2, B2, G1, hB2, hx1, sw1, cap1, c1, c3⟩ := step
    obtain ⟨T', G', sw2, cap2, cc⟩ := ih (i + 1) T1 μ2 B2 (by omega) G1 (by omega) hx1
    refine ⟨T', GI_up (by omega) (Nat.le_refl _) G', SW_t sw1 sw2, Nat.le_trans cap1 cap2, ?_⟩
    intro ad S mc ms c0 n0 post R hc hn h
    unfold w_X8_fineLate_l2 w_X8_fineLate_b61
    obtain ⟨-, -, -, -, -, -, d0, -, -, -, -, -, d1, -, -, -, d2, -⟩ := G.1.2.1
    have o9 := RC_o9 R (VC_9 (n := n) (len := l0))
    have o19 := RC_a19 R (VC_19 (n := n) (len := l0))
    have c : ¬ nI 24 ≤ nI i := by rw [qn_le (by omega) (by omega)]; omega
    refine ⟨by omega, by omega, o9.1, ad 19 0, by rw [o9.2.2.2.2.2.1, d0]; rfl, o19.1, ?_⟩
    rw [o19.2.1, d1, o19.2.2, qn_nat (show i < 2147483648 by omega), d2]
    refine ⟨fun hc => absurd hc c, fun _ => ⟨vin_nI (by omega) (by decide), ?_⟩⟩
    have skip : ¬ (i < n 8 ∧ σ 33 i = 3 ∧ ¬ z_today σ ≤ z_last σ i) → c0 ≤ mc ∧ n0 ≤ ms ∧ w_X8_fineLate_l2 (ad 9 0) mc ms post (d + 1) c0 n0 S (nI i + 1) := by
      intro hno
      have eT := c3 hno
      rw [eT] at cc
      rw [qn_s]
      exact ⟨by omega, by omega, cc ad S mc ms c0 n0 post R hc hn h⟩
    by_cases hin : i < n 8
    · rw [iT_T hin]
      have R0 := R
      rw [← hl] at R0
      have o8 := RC_o8 R (VC_8 (n := n) (len := l0) hin)
      obtain ⟨w0, w1, w2, -, -, -, -, -, -, w9, w10, -⟩ := (G.1.2.2.2.1 i hin).1
      refine ⟨fun e => (by cases e), fun a6 e6 => ⟨?_, ?_⟩⟩
      · cases e6; exact o8.1
      cases e6
      rw [o8.2.2.2.2.2.2.2.2.2.2.2.1, w10]
      refine ⟨fun h3 => skip (fun z => h3 z.2.1), fun h3 => ?_⟩
      rw [k_today R0 G.1, o8.2.2.2.2.2.2.2.2.2.2.1, w9]
      have hsw := (G.1.2.2.2.2.2.2.1.2.2.1 i hin).1
      refine ⟨fun ht => skip (fun z => z.2.2 ht), fun ht => ⟨o8.1, _, by rw [o8.2.2.2.1, w2]; rfl, (RC_o5 R0 (VC_5 hsw)).1, ?_⟩⟩
      rw [k_weight R0 hsw (G.1.2.2.1 _ hsw), o8.2.2.1, w1]
      refine ⟨o9.1, tN T1 12 0 - tN T 12 0, 2 * (tN T1 12 0 - tN T 12 0), by omega, by omega, ?_⟩
      refine (c1 hin h3 ht).2 ad S _ _ _ R (Nat.le_refl _) (Nat.le_refl _) (fun ad1 S1 R1 e1 => ⟨by omega, by omega, ?_⟩)
      rw [qn_s, ← e1 9 0 (by decide)]
      exact cc ad1 S1 mc ms _ _ post R1 (by omega) (by omega) (fun ad' S' R' e' => h ad' S' R' (fun l j hl => (e' l j hl).trans (e1 l j hl)))
    · rw [iT_F hin]
      exact ⟨fun _ => skip (fun z => hin z.1), fun a e => (by cases e)⟩
end C
