/-! rents -/
section C
variable {ad : Nat → Nat → Nat} {S : PT} {T : CT} {σ : SG} {n len : Nat → Nat} {μ : MU} {pl : Nat → Nat} {B E : Nat}
theorem TK_share (G : GI T σ μ n pl B E) (K : TK T σ n) {k : Nat} (hk : k < n 8) : ((tI T 509 (σ 25 k).toNatClampNeg &&& tI T 814 k) = 0) ↔ ¬ z_share σ k (n 8) := by
  have h24 : n 8 ≤ 24 := G.1.1.2.2.2.2.2.1
  have hsw := (G.1.2.2.2.2.2.2.1.2.2.1 k hk).1
  obtain ⟨s, es, -, hs2⟩ := IB_nI G.1.2.2.2.2.2.2.2 25 k rfl
  rw [es, qn_nat hs2] at hsw
  have D8k := (G.1.2.2.2.1 k hk).2
  rw [bit_z, es, qn_nat hs2]
  unfold z_share aN
  rw [es]
  constructor
  · rintro h ⟨l, hl, h1, h2, h3⟩
    exact h l ((bit_nd _ _ _).mpr ⟨(K s hsw l).mpr ⟨hl, h2, h3⟩, (D8k l).mpr ⟨by omega, h1⟩⟩)
  · intro h l hb
    obtain ⟨a, b⟩ := (bit_nd _ _ _).mp hb
    obtain ⟨c1, c2, c3⟩ := (K s hsw l).mp a
    exact h ⟨l, c1, ((D8k l).mp b).2, c2, c3⟩
theorem rent_b (H : IB σ) (k nW : Nat) : 0 ≤ (z_rent σ k nW).toInt ∧ (z_rent σ k nW).toInt ≤ 2000 := by
  have gb := grade_b H (σ 25 k).toNatClampNeg
  have e50 : (50 * (4 - σ 3 (σ 25 k).toNatClampNeg)).toInt = 50 * (4 - σ 3 (σ 25 k).toNatClampNeg).toInt := by
    rw [tmul, show (50 : Int32).toInt = 50 from by decide]
    rcases gb with g | g | g | g <;> (rw [g]; decide)
  unfold z_rent
  refine iT_ind (fun v : Int32 => 0 ≤ v.toInt ∧ v.toInt ≤ 2000) (fun _ => ?_) (fun _ => ?_)
  · rw [tdiv (by rw [e50]; omega) (by decide), e50, show (2 : Int32).toInt = 2 from by decide]; omega
  · rw [e50]; omega
theorem g_charge_l {l0 : Nat → Nat} {μ0 : MU} (hl : z_len σ = l0) : ∀ (d i : Nat) (T : CT) (μ1 : MU) (B1 : Nat), i + d = 24 → GI T σ μ1 n pl B1 E → TK T σ n → B1 + 2 * d ≤ 262144 → μ1 = z_ren σ μ0 (n 8) (min i (n 8)) →
    ∃ T', GI T' σ (z_ren σ μ0 (n 8) (n 8)) n pl (B1 + 2 * d) E ∧ TK T' σ n ∧ SW T T' ∧ tN T 12 0 ≤ tN T' 12 0 ∧ ∀ (ad : Nat → Nat → Nat) (S : PT) (mc ms c0 n0 : Nat) (post : PT → Prop), RC ad (VC n l0) S T → c0 + (tN T' 12 0 - tN T 12 0) ≤ mc → n0 + 2 * (tN T' 12 0 - tN T 12 0) ≤ ms →
    (∀ ad' S', RC ad' (VC n l0) S' T' → (∀ l j, l ≠ 12 → ad' l j = ad l j) → post S') → w_X8_chargeTakers_l2 (ad 9 0) mc ms post (d + 1) c0 n0 S (nI i) := by
  intro d
  induction d with
  | zero =>
    intro i T μ1 B1 hi G K hB hx
    have h24 : n 8 ≤ 24 := G.1.1.2.2.2.2.2.1
    have e1 : i = 24 := by omega
    subst e1
    rw [Nat.min_eq_right h24] at hx
    subst hx
    refine ⟨T, G, K, ⟨rfl, rfl⟩, Nat.le_refl _, ?_⟩
    intro ad S mc ms c0 n0 post R hc hn h
    unfold w_X8_chargeTakers_l2
    obtain ⟨-, -, -, -, -, -, d0, -, -, -, -, -, d1, -⟩ := G.1.2.1
    have o9 := RC_o9 R (VC_9 (n := n) (len := l0))
    have o19 := RC_a19 R (VC_19 (n := n) (len := l0))
    refine ⟨by omega, by omega, o9.1, ad 19 0, by rw [o9.2.2.2.2.2.1, d0]; rfl, o19.1, ?_⟩
    rw [o19.2.1, d1]
    exact ⟨fun _ => h ad S R (fun _ _ _ => rfl), fun hc => absurd (by decide) hc⟩
  | succ d ih =>
    intro i T μ1 B1 hi G K hB hx
    have h24 : n 8 ≤ 24 := G.1.1.2.2.2.2.2.1
    have Hb := G.1.2.2.2.2.2.2.2
    have step : ∃ T1 T2 μ1' μ2 B2, GI T1 σ μ1' n pl B2 E ∧ GI T2 σ μ2 n pl B2 E ∧ TK T2 σ n ∧ B2 ≤ B1 + 2 ∧ μ2 = z_ren σ μ0 (n 8) (min (i + 1) (n 8)) ∧ SW T T2 ∧ tN T 12 0 ≤ tN T1 12 0 ∧ tN T1 12 0 ≤ tN T2 12 0 ∧
        (i < n 8 → z_takes σ i → PMe n l0 T T1 (fun ad S mc ms post => w_X8_pay (ad 9 0) (σ 24 i) 5 (z_rent σ i (n 8)) S mc ms post)) ∧
        (i < n 8 → z_takes σ i → ¬ σ 34 i &&& 2 = 0 → PMe n l0 T1 T2 (fun ad S mc ms post => w_X8_pay (ad 9 0) (σ 24 i) 5 200 S mc ms post)) ∧ (σ 34 i &&& 2 = 0 → T2 = T1) ∧
        (¬ (i < n 8 ∧ z_takes σ i) → T1 = T ∧ T2 = T) := by
      by_cases hin : i < n 8
      · rw [Nat.min_eq_left (show i ≤ n 8 by omega)] at hx
        rw [Nat.min_eq_left (show i + 1 ≤ n 8 by omega)]
        rw [z_ren]
        by_cases hc : z_takes σ i
        · obtain ⟨p, hp, ep, ep2⟩ := pr_n Hb i
          have ab := rent_b Hb i (n 8)
          obtain ⟨T1, G1, sl, cc⟩ := g_pay G (show B1 < 262144 by omega) (show p < 6 by omega) (show 5 < 6 by decide) ab.1 ab.2
          rw [hl] at cc
          rw [iT_T hc, ep2, ← hx]
          by_cases h2 : σ 34 i &&& 2 = 0
          · rw [iT_T h2, z_pay_0]
            refine ⟨T1, T1, _, _, B1 + 1, G1, G1, TK_SL K sl, by omega, rfl, SL_W sl, cc.1, Nat.le_refl _, fun _ _ => by rw [ep]; exact cc, fun _ _ h => absurd h2 h, fun _ => rfl, fun h => absurd ⟨hin, hc⟩ h⟩
          · rw [iT_F h2]
            obtain ⟨T2, G2, sl2, cc2⟩ := g_pay G1 (show B1 + 1 < 262144 by omega) (show p < 6 by omega) (show 5 < 6 by decide) (a := 200) (by decide) (by decide)
            rw [hl] at cc2
            exact ⟨T1, T2, _, _, B1 + 2, GI_up (by omega) (Nat.le_refl _) G1, G2, TK_SL (TK_SL K sl) sl2, by omega, rfl, SW_t (SL_W sl) (SL_W sl2), cc.1, cc2.1, fun _ _ => by rw [ep]; exact cc, fun _ _ _ => by rw [ep]; exact cc2, fun h => absurd h h2, fun h => absurd ⟨hin, hc⟩ h⟩
        · rw [iT_F hc]
          exact ⟨T, T, μ1, μ1, B1, G, G, K, by omega, hx, ⟨rfl, rfl⟩, Nat.le_refl _, Nat.le_refl _, fun _ a => absurd a hc, fun _ a => absurd a hc, fun _ => rfl, fun _ => ⟨rfl, rfl⟩⟩
      · rw [Nat.min_eq_right (show n 8 ≤ i by omega)] at hx
        rw [Nat.min_eq_right (show n 8 ≤ i + 1 by omega)]
        exact ⟨T, T, μ1, μ1, B1, G, G, K, by omega, hx, ⟨rfl, rfl⟩, Nat.le_refl _, Nat.le_refl _, fun h => absurd h hin, fun h => absurd h hin, fun _ => rfl, fun _ => ⟨rfl, rfl⟩⟩
    obtain ⟨T1, T2, μ1', μ2, B2, G1, G2, K2, hB2, hx1, sw1, cap1, cap1b, c1, c2, c2b, c3⟩ := step
    obtain ⟨T', G', K', sw2, cap2, cc⟩ := ih (i + 1) T2 μ2 B2 (by omega) G2 K2 (by omega) hx1
    refine ⟨T', GI_up (by omega) (Nat.le_refl _) G', K', SW_t sw1 sw2, by omega, ?_⟩
    intro ad S mc ms c0 n0 post R hc hn h
    unfold w_X8_chargeTakers_l2 w_X8_chargeTakers_b103
    obtain ⟨-, -, -, -, -, -, d0, -, -, -, -, -, d1, -, -, -, d2, -⟩ := G.1.2.1
    have o9 := RC_o9 R (VC_9 (n := n) (len := l0))
    have o19 := RC_a19 R (VC_19 (n := n) (len := l0))
    have c : ¬ nI 24 ≤ nI i := by rw [qn_le (by omega) (by omega)]; omega
    refine ⟨by omega, by omega, o9.1, ad 19 0, by rw [o9.2.2.2.2.2.1, d0]; rfl, o19.1, ?_⟩
    rw [o19.2.1, d1, o19.2.2, qn_nat (show i < 2147483648 by omega), d2]
    refine ⟨fun hc => absurd hc c, fun _ => ⟨vin_nI (by omega) (by decide), ?_⟩⟩
    have skip : ¬ (i < n 8 ∧ z_takes σ i) → c0 ≤ mc ∧ n0 ≤ ms ∧ w_X8_chargeTakers_l2 (ad 9 0) mc ms post (d + 1) c0 n0 S (nI i + 1) := by
      intro hno
      obtain ⟨eT1, eT⟩ := c3 hno
      rw [eT] at cc
      rw [qn_s]
      exact ⟨by omega, by omega, cc ad S mc ms c0 n0 post R hc hn h⟩
    by_cases hin : i < n 8
    · rw [iT_T hin]
      have R0 := R
      rw [← hl] at R0
      have o8 := RC_o8 R (VC_8 (n := n) (len := l0) hin)
      have D := (G.1.2.2.2.1 i hin).1
      obtain ⟨w0, w1, w2, -⟩ := D
      refine ⟨fun e => (by cases e), fun a6 e6 => ?_⟩
      cases e6
      refine ⟨o8.1, ?_⟩
      rw [k_takesStreet R0 hin (G.1.2.2.2.1 i hin).1, bI_0]
      refine ⟨fun ht => skip (fun z => ht z.2), fun ht => ?_⟩
      rw [Classical.not_not] at ht
      have hsw := (G.1.2.2.2.2.2.2.1.2.2.1 i hin).1
      have o5 := RC_o5 R0 (VC_5 (n := n) (len := z_len σ) hsw)
      have g802 : gP S 802 (ad 8 i) = some (ad 5 (σ 25 i).toNatClampNeg) := by rw [o8.2.2.2.1, w2]; rfl
      refine ⟨o8.1, _, g802, o5.1, ?_⟩
      rw [k_weight R0 hsw (G.1.2.2.1 _ hsw)]
      refine ⟨o8.1, _, g802, o5.1, ?_⟩
      rw [o5.2.2.2.2.2.2.2.2.2.2.1, o8.2.2.2.2.2.2.2.2.2.2.2.2.2.2.2.1, propext (TK_share G K hin)]
      -- what follows the rent
      have b80 : ∀ v, v = z_rent σ i (n 8) → w_X8_chargeTakers_b80 (ad 9 0) mc ms post (w_X8_chargeTakers_l2 (ad 9 0) mc ms post (d + 1)) c0 n0 S (nI i) (some (ad 8 i)) (some (ad 9 0)) (gI S 801 (ad 8 i)) 5 v := by
        intro v hv
        unfold w_X8_chargeTakers_b80
        rw [o8.2.2.1, w1, hv]
        refine ⟨by omega, by omega, _, rfl, o9.1, tN T1 12 0 - tN T 12 0, 2 * (tN T1 12 0 - tN T 12 0), by omega, by omega, ?_⟩
        refine (c1 hin ht).2 ad S _ _ _ R (Nat.le_refl _) (Nat.le_refl _) (fun ad1 S1 R1 e1 => ?_)
        have R1' := R1
        rw [← hl] at R1'
        rw [← e1 8 i (by decide), ← e1 9 0 (by decide)]
        have o81 := RC_o8 R1' (VC_8 (n := n) (len := z_len σ) hin)
        refine ⟨_, rfl, o81.1, ?_⟩
        rw [k_hasCondition R1' hin (G1.1.2.2.2.1 i hin).1, bI_0, Classical.not_not]
        unfold w_X8_chargeTakers_b103
        refine ⟨fun h2 => ⟨by omega, by omega, ?_⟩, fun h2 => ⟨o81.1, (RC_o9 R1' VC_9).1, tN T2 12 0 - tN T1 12 0, 2 * (tN T2 12 0 - tN T1 12 0), by omega, by omega, ?_⟩⟩
        · have eT := c2b h2
          rw [eT] at cc
          rw [qn_s]
          exact cc ad1 S1 mc ms _ _ post R1 (by omega) (by omega) (fun ad' S' R' e' => h ad' S' R' (fun l j hl => (e' l j hl).trans (e1 l j hl)))
        · rw [o81.2.2.1, (G1.1.2.2.2.1 i hin).1.2.1]
          refine (c2 hin ht h2).2 ad1 S1 _ _ _ R1 (Nat.le_refl _) (Nat.le_refl _) (fun ad2 S2 R2 e2 => ⟨by omega, by omega, ?_⟩)
          rw [qn_s, ← e2 9 0 (by decide)]
          exact cc ad2 S2 mc ms _ _ post R2 (by omega) (by omega) (fun ad' S' R' e' => h ad' S' R' (fun l j hl => ((e' l j hl).trans (e2 l j hl)).trans (e1 l j hl)))
      unfold w_X8_chargeTakers_b60
      refine ⟨fun hsh => ⟨by omega, by omega, _, rfl, o8.1, fun _ => b80 _ (by rw [z_rent, iT_F hsh]), fun hn0 => absurd rfl hn0⟩, fun hsh => ⟨by omega, by omega, _, rfl, o8.1, fun h10 => absurd h10 (by decide), fun _ => b80 _ (by rw [z_rent, iT_T (Classical.not_not.mp hsh)])⟩⟩
    · rw [iT_F hin]
      exact ⟨fun _ => skip (fun z => hin z.1), fun a e => (by cases e)⟩
end C
