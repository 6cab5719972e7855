/-! open -/
theorem cN_up {P Q : Nat → Prop} {q : Nat} : ∀ m : Nat, (∀ i, i ≠ q → (Q i ↔ P i)) → ¬ P q → Q q → cN Q m = cN P m + iT (q < m) 1 0
  | 0, _, _, _ => by rw [iT_F (by omega)]; rfl
  | m + 1, h, hp, hq => by
    have ih := cN_up m h hp hq
    unfold cN
    rw [ih]
    by_cases e : m = q
    · subst e
      rw [iT_F (show ¬ m < m by omega), iT_T hq, iT_F hp, iT_T (show m < m + 1 by omega)]
    · rw [propext (h m e)]
      by_cases hm : q < m
      · rw [iT_T hm, iT_T (show q < m + 1 by omega)]; omega
      · rw [iT_F hm, iT_F (show ¬ q < m + 1 by omega)]; omega
section C
variable {ad : Nat → Nat → Nat} {S : PT} {T : CT} {σ : SG} {n len : Nat → Nat} {μ : MU} {pl : Nat → Nat} {B E : Nat}
/-- a metre is opened or filled: q gets v (works k, or nobody) -/
theorem g_open (H : GI T σ μ n pl B E) {k s i : Nat} (hk : k < n 8) (hs0 : s < n 5) (hi : i < z_len σ s) (h13 : σ 13 (40 * s + i) = -1) {σ' : SG} (es : σ' = up2 (up2 σ 12 (40 * s + i) 1) 13 (40 * s + i) (nI k)) :
    GI (uI (uI (uI T 300 (40 * s + i) 1) 301 (40 * s + i) (nI k)) 815 k (tI T 815 k + 1)) σ' μ n pl B E := by
  obtain ⟨⟨h1, h9, h5, h8, h7, h3, hv, hb⟩, ⟨hd, hs⟩, hr, h4, hl, hta, htb, fa, fb, fc, fd, fe, ff, fg, fh, fi⟩ := H
  have hi40 := (z_len_i hb s).2
  have h24 : n 8 ≤ 24 := h1.2.2.2.2.2.1
  have h6 : n 5 ≤ 6 := h1.2.1
  have eS : ∀ f, ¬ (f = 12 ∨ f = 13) → σ' f = σ f := fun f h => by rw [es, sg_o (by omega), sg_o (by omega)]
  have eI : ∀ F, ¬ (F = 300 ∨ F = 301 ∨ F = 815) → tI (uI (uI (uI T 300 (40 * s + i) 1) 301 (40 * s + i) (nI k)) 815 k (tI T 815 k + 1)) F = tI T F := fun F h => by show up2 (up2 (up2 (tI T) 300 _ _) 301 _ _) 815 k _ F = _; rw [sg_o (by omega), sg_o (by omega), sg_o (by omega)]
  have eP : ∀ F9, ¬ False → tP (uI (uI (uI T 300 (40 * s + i) 1) 301 (40 * s + i) (nI k)) 815 k (tI T 815 k + 1)) F9 = tP T F9 := fun _ _ => rfl
  have eN : ∀ F9, ¬ False → tN (uI (uI (uI T 300 (40 * s + i) 1) 301 (40 * s + i) (nI k)) 815 k (tI T 815 k + 1)) F9 = tN T F9 := fun _ _ => rfl
  have eR : ∀ F9, ¬ False → tR (uI (uI (uI T 300 (40 * s + i) 1) 301 (40 * s + i) (nI k)) 815 k (tI T 815 k + 1)) F9 = tR T F9 := fun _ _ => rfl
  have eA : tA (uI (uI (uI T 300 (40 * s + i) 1) 301 (40 * s + i) (nI k)) 815 k (tI T 815 k + 1)) = tA T := rfl
  have eJ : tJ (uI (uI (uI T 300 (40 * s + i) 1) 301 (40 * s + i) (nI k)) 815 k (tI T 815 k + 1)) = tJ T := rfl
  have eM : μ = μ := rfl
  have e12 : ∀ q, q ≠ 40 * s + i → σ' 12 q = σ 12 q := fun q h => by rw [es, up2_f _ _ _ _ (by decide), up2_i _ _ h]
  have e13 : ∀ q, q ≠ 40 * s + i → σ' 13 q = σ 13 q := fun q h => by rw [es, up2_i _ _ h, up2_f _ _ _ _ (by decide)]
  have e13s : σ' 13 (40 * s + i) = nI k := by rw [es, up2_s]
  have e12s : σ' 12 (40 * s + i) = 1 := by rw [es, up2_f _ _ _ _ (by decide), up2_s]
  have hlz : z_len σ' = z_len σ := z_len_c (fun j => by rw [eS 2 (by omega)])
  have q240 : 40 * s + i < 240 := by omega
  have no : ∀ l : Nat, l < 24 → ¬ σ 13 (40 * s + i) = nI l := fun l hl => by rw [h13, ieq, nI_toInt (by omega), show (-1 : Int32).toInt = -1 from by decide]; omega
  refine ⟨⟨(DN_c (by rw [eS 1 (by first | omega | exact not_false)]) (by rw [eS 14 (by first | omega | exact not_false)]) (by rw [eS 23 (by first | omega | exact not_false)]) (by rw [eS 40 (by first | omega | exact not_false)]) h1), (D9_d (fun F hF => eI F (by first | omega | exact not_false)) (fun F hF => eP F (by first | omega | exact not_false)) (fun k hk => eN k (by first | omega | exact not_false)) (fun k hk hk2 => eR k (by first | omega | exact not_false)) (by rw [eS 0 (by first | omega | exact not_false)]) h9), (fun j hj => D5_c (fun F hF _ _ => by rw [eI F (by first | omega | exact not_false)]) (fun F hF => by rw [eP F (by first | omega | exact not_false)]) (by rw [eN 15 (by first | omega | exact not_false)]) (by rw [eR 15 (by first | omega | exact not_false)]) (fun f a b _ => by rw [eS f (by first | omega | exact not_false)]) (h5 j hj)), ?_, (fun t ht => D7_c (fun F hF => by rw [eI F (by first | omega | exact not_false)]) (fun F hF => by rw [eP F (by first | omega | exact not_false)]) (fun f a b => by rw [eS f (by first | omega | exact not_false)]) (eS 2 (by first | omega | exact not_false)) (h7 t ht)), ?_, ?_, ?_⟩, ⟨(fun k hk => D1_c (fun F hF => by rw [eI F (by first | omega | exact not_false)]) (fun F hF => by rw [eP F (by first | omega | exact not_false)]) (fun f a b => eS f (by first | omega | exact not_false)) (hd k hk)), (DS_c (eI 508 (by first | omega | exact not_false)) (eS 7 (by first | omega | exact not_false)) hs)⟩, (DR_c (fun f hf => eS f (by first | omega | exact not_false)) hr), (fun p hp => D4_c (by rw [eJ]) (fun F hF => by rw [eI F (by first | omega | exact not_false)]) (by rw [eM]) (eS 24 (by first | omega | exact not_false)) (eS 42 (by first | omega | exact not_false)) (by rw [eS 46 (by first | omega | exact not_false)]) (by rw [eS 47 (by first | omega | exact not_false)]) (h4 p hp)), (DL_c (eI 201 (by first | omega | exact not_false)) (eP 200 (by first | omega | exact not_false)) (eN 12 (by first | omega | exact not_false)) eA eM hl), (DTa_c (fun F hF => eI F (by first | omega | exact not_false)) (fun F hF => eP F (by first | omega | exact not_false)) (fun f hf => eS f (by first | omega | exact not_false)) hta), (DTb_c (eI 1102 (by first | omega | exact not_false)) (eP 1101 (by first | omega | exact not_false)) (eN 20 (by first | omega | exact not_false)) (eR 20 (by first | omega | exact not_false)) htb), (FRa_c (fun f hf => eS f (by first | omega | exact not_false)) fa), ?_, (FRc_c (eS 20 (by first | omega | exact not_false)) fc), (FRd_c (fun f hf => eS f (by first | omega | exact not_false)) fd), ?_, (FRf_c (eS 39 (by first | omega | exact not_false)) ff), (FRg_c (eS 45 (by first | omega | exact not_false)) fg), (FRh_c (eS 7 (by first | omega | exact not_false)) (eS 40 (by first | omega | exact not_false)) fh), (FRi_c (eS 46 (by first | omega | exact not_false)) fi)⟩
  · intro l hl2
    refine ⟨?_, D8a_c (by rw [eI 814 (by omega)]) (eS 39 (by omega)) (h8 l hl2).2⟩
    by_cases e : l = k
    · subst e
      have ho : nI (z_opens σ' (nI l)) = nI (z_opens σ (nI l)) + 1 := by
        unfold z_opens
        rw [cN_up (P := fun q => σ 13 q = nI l) (q := 40 * s + i) 240 (fun q hq => by rw [e13 q hq]) (no l (by omega)) e13s, iT_T q240, qn_s]
      obtain ⟨d0, d1, d2, d3, d4, d5, d6, d7, d8, d9, d10, d11, d12, d13, d15, d16, d17⟩ := (h8 l hl2).1
      unfold D8 z_last at *
      rw [ho, eS 24 (by omega), eS 25 (by omega), eS 26 (by omega), eS 27 (by omega), eS 28 (by omega), eS 29 (by omega), eS 30 (by omega), eS 31 (by omega), eS 32 (by omega), eS 33 (by omega), eS 34 (by omega), eS 35 (by omega), eS 36 (by omega), eS 37 (by omega), eS 38 (by omega),
        eI 800 (by omega), eI 801 (by omega), eI 803 (by omega), eI 804 (by omega), eI 805 (by omega), eI 806 (by omega), eI 807 (by omega), eI 808 (by omega), eI 809 (by omega), eI 810 (by omega), eI 811 (by omega), eI 812 (by omega), eI 813 (by omega), eI 816 (by omega), eI 817 (by omega), tI_s, d15]
      exact ⟨d0, d1, d2, d3, d4, d5, d6, d7, d8, d9, d10, d11, d12, d13, rfl, d16, d17⟩
    · refine D8_c (T := T) (fun F hF => ?_) (fun _ _ => rfl) (fun f a b => by rw [eS f (by omega)]) ?_ (h8 l hl2).1
      · rw [tI_i e, tI_o (by omega), tI_o (by omega)]
      · unfold z_opens
        refine cN_cong 240 (fun q _ => ?_)
        by_cases hq : q = 40 * s + i
        · rw [hq, e13s]
          refine ⟨fun z => ?_, fun z => absurd z (no l (by omega))⟩
          rw [qn_eq (by omega) (by omega)] at z
          exact absurd z.symm e
        · rw [e13 q hq]
  · intro j l hj hl2
    rw [hlz] at hl2
    have D := h3 j l hj hl2
    by_cases e : 40 * j + l = 40 * s + i
    · rw [e] at D ⊢
      obtain ⟨d0, d1, d2, d3⟩ := D
      unfold D3
      rw [e12s, e13s, eS 41 (by omega), eI 302 (by omega)]
      exact ⟨by rw [tI_o (by decide), tI_o (by decide), tI_s], by rw [tI_o (by decide), tI_s], d2, d3⟩
    · exact D3_c (T := T) (fun F hF => by rw [tI_o (by omega), tI_i e, tI_i e]) rfl (e12 _ e) (e13 _ e) (eS 41 (by omega)) D
  · obtain ⟨v1, v2, v3, v4, v5, v6⟩ := hv
    unfold DV
    rw [hlz, eS 5 (by omega), eS 16 (by omega), eS 17 (by omega), eS 18 (by omega), eS 25 (by omega), eS 26 (by omega), eS 27 (by omega), eS 42 (by omega), eS 39 (by omega)]
    refine ⟨v1, v2, v3, v4, fun q hq h0 => ?_, v6⟩
    by_cases e : q = 40 * s + i
    · rw [e, show (40 * s + i) / 40 = s by omega, show (40 * s + i) % 40 = i by omega]; exact ⟨hs0, hi⟩
    · rw [e13 q e] at h0; exact v5 q hq h0
  · rw [es]
    refine IB_up (IB_up (v := 1) hb 12 _ (by decide) (by decide)) 13 _ ?_ ?_
    · rw [nI_toInt (by omega)]; simp only [bl]; simp
    · rw [nI_toInt (by omega)]; simp only [bh]; omega
  · intro q hq h0
    rw [hlz]
    by_cases e : q = 40 * s + i
    · rw [e, show (40 * s + i) / 40 = s by omega, show (40 * s + i) % 40 = i by omega]; exact ⟨hs0, hi⟩
    · rw [e12 q e] at h0; exact fb q hq h0
  · intro q l hq hl2 h0
    by_cases e : q = 40 * s + i
    · rw [e, e13s, qn_eq (by omega) (by omega)] at h0; omega
    · rw [e13 q e] at h0; exact fe q l hq hl2 h0
theorem g_strike_l {k y : Nat} (hk : k < n 8) (hy : y < 1000) : ∀ (d i : Nat) (T : CT) (μ1 : MU) (B1 : Nat), i + d = 30 → GI T σ μ1 n pl B1 E → B1 + d ≤ 262144 → μ1 = z_smu σ μ k (nI y) (min i (n 7)) →
    ∃ T', GI T' σ (z_smu σ μ k (nI y) (n 7)) n pl (B1 + d) E ∧ SL T T' ∧ tN T 12 0 ≤ tN T' 12 0 ∧ ∀ (ad : Nat → Nat → Nat) (S : PT) (mc ms c0 n0 : Nat) (post : Int32 → PT → Prop), RC ad (VC n (z_len σ)) S T → c0 + (tN T' 12 0 - tN T 12 0) ≤ mc → n0 + 2 * (tN T' 12 0 - tN T 12 0) ≤ ms →
    (∀ ad' S', RC ad' (VC n (z_len σ)) S' (uI T' 813 k (tI T' 813 k + nI (cN (z_hit σ k (nI y)) (n 7)))) → (∀ l j, l ≠ 12 → ad' l j = ad l j) → post (nI (cN (z_hit σ k (nI y)) (n 7))) S') →
    w_X8_strikeThings_l5 (ad 9 0) (some (ad 8 k)) (nI y) mc ms post (d + 1) c0 n0 S (nI (cN (z_hit σ k (nI y)) (min i (n 7)))) (nI i) := by
  intro d
  induction d with
  | zero =>
    intro i T μ1 B1 hi G hB hm
    have h30 : n 7 ≤ 30 := G.1.1.2.2.2.1
    have e1 : i = 30 := by omega
    subst e1
    rw [Nat.min_eq_right h30] at hm ⊢
    subst hm
    refine ⟨T, G, SL_r T, Nat.le_refl _, ?_⟩
    intro ad S mc ms c0 n0 post R hc hn h
    unfold w_X8_strikeThings_l5
    obtain ⟨-, -, -, -, -, d0, -, -, -, -, -, d1, -⟩ := G.1.2.1
    have o9 := RC_o9 R (VC_9 (n := n) (len := z_len σ))
    have o18 := RC_a18 R (VC_18 (n := n) (len := z_len σ))
    refine ⟨by omega, by omega, o9.1, ad 18 0, by rw [o9.2.2.2.1, d0]; rfl, o18.1, ?_⟩
    rw [o18.2.1, d1]
    have o8 := RC_o8 R (VC_8 (n := n) (len := z_len σ) hk)
    refine ⟨fun _ => ⟨ad 8 k, rfl, o8.1, ?_⟩, fun hc => absurd (by decide) hc⟩
    rw [o8.2.2.2.2.2.2.2.2.2.2.2.2.2.2.1]
    exact RC_uI R (VC_8 hk) 13 rfl (by decide) (by decide) (fun S' R' => h ad S' R' (fun _ _ _ => rfl))
  | succ d ih =>
    intro i T μ1 B1 hi G hB hm
    have h30 : n 7 ≤ 30 := G.1.1.2.2.2.1
    have Hb := G.1.2.2.2.2.2.2.2
    -- what this thing does
    have step : ∃ T1 μ2 B2, GI T1 σ μ2 n pl B2 E ∧ B2 ≤ B1 + 1 ∧ μ2 = z_smu σ μ k (nI y) (min (i + 1) (n 7)) ∧ SL T T1 ∧ tN T 12 0 ≤ tN T1 12 0 ∧
        (i < n 7 → z_hit σ k (nI y) i → PMe n (z_len σ) T T1 (fun ad S mc ms post => w_X8_pay (ad 9 0) (σ 24 k) (σ 15 i) 1000 S mc ms post)) ∧ (¬ (i < n 7 ∧ z_hit σ k (nI y) i) → T1 = T) := by
      by_cases hin : i < n 7
      · rw [Nat.min_eq_left (show i ≤ n 7 by omega)] at hm
        rw [Nat.min_eq_left (show i + 1 ≤ n 7 by omega)]
        by_cases hh : z_hit σ k (nI y) i
        · obtain ⟨p, hp, ep, ep2⟩ := pr_n Hb k
          obtain ⟨o, eo, ho, ho2⟩ := IB_nI Hb 15 i rfl
          have ho4 : (o : Int) ≤ 4 := ho
          obtain ⟨T1, G1, sl, c⟩ := g_pay G (show B1 < 262144 by omega) (show p < 6 by omega) (show o < 6 by omega) (a := 1000) (by decide) (by decide)
          refine ⟨T1, _, B1 + 1, G1, Nat.le_refl _, ?_, sl, c.1, fun _ _ => by rw [ep, eo]; exact c, fun hn => absurd ⟨hin, hh⟩ hn⟩
          rw [z_smu, iT_T hh, ep2, eo, qn_nat ho2, hm]
        · exact ⟨T, _, B1, G, by omega, by rw [z_smu, iT_F hh, hm], SL_r T, Nat.le_refl _, fun _ h => absurd h hh, fun _ => rfl⟩
      · rw [Nat.min_eq_right (show n 7 ≤ i by omega)] at hm
        rw [Nat.min_eq_right (show n 7 ≤ i + 1 by omega)]
        exact ⟨T, _, B1, G, by omega, hm, SL_r T, Nat.le_refl _, fun h _ => absurd h hin, fun _ => rfl⟩
    obtain ⟨T1, μ2, B2, G1, hB2, hm2, sl1, cap1, cpay, cno⟩ := step
    obtain ⟨T', G', sl2, cap2, cc⟩ := ih (i + 1) T1 μ2 B2 (by omega) G1 (by omega) hm2
    refine ⟨T', GI_up (by omega) (Nat.le_refl _) G', SL_t sl1 sl2, Nat.le_trans cap1 cap2, ?_⟩
    intro ad S mc ms c0 n0 post R hc hn h
    unfold w_X8_strikeThings_l5 w_X8_strikeThings_b73
    obtain ⟨-, -, -, -, -, d0, -, -, -, -, -, d1, -, -, -, d2, -⟩ := G.1.2.1
    have o9 := RC_o9 R (VC_9 (n := n) (len := z_len σ))
    have o18 := RC_a18 R (VC_18 (n := n) (len := z_len σ))
    have c : ¬ nI 30 ≤ nI i := by rw [qn_le (by omega) (by omega)]; omega
    refine ⟨by omega, by omega, o9.1, ad 18 0, by rw [o9.2.2.2.1, d0]; rfl, o18.1, ?_⟩
    rw [o18.2.1, d1, o18.2.2, qn_nat (show i < 2147483648 by omega), d2]
    refine ⟨fun hc => absurd hc c, fun _ => ⟨vin_nI (by omega) (by decide), ?_⟩⟩
    by_cases hin : i < n 7
    · rw [iT_T hin]
      have hsw := (G.1.2.2.2.2.2.2.1.2.2.1 k hk).1
      have o8 := RC_o8 R (VC_8 (n := n) (len := z_len σ) hk)
      have o7 := RC_o7 R (VC_7 (n := n) (len := z_len σ) hin)
      obtain ⟨-, f1, f2, -, -, -, -, f7, -⟩ := (G.1.2.2.2.1 k hk).1
      obtain ⟨t0, -, -, -, t4, -⟩ := G.1.2.2.2.2.1 i hin
      refine ⟨fun e => (by cases e), fun a11 e11 => ⟨ad 8 k, rfl, o8.1, ?_⟩⟩
      cases e11
      have p802 : gP S 802 (ad 8 k) = some (ad 5 (σ 25 k).toNatClampNeg) := by rw [o8.2.2.2.1, f2]; rfl
      obtain ⟨s, es, hs, hs2⟩ := IB_nI Hb 25 k rfl
      rw [p802]
      refine ⟨o7.1, ?_⟩
      rw [k_liesAt R G.1 hin hsw, bI_0]
      have ess : nI (σ 25 k).toNatClampNeg = σ 25 k := by rw [es, qn_nat hs2]
      rw [ess]
      rw [Nat.min_eq_left (show i + 1 ≤ n 7 by omega), cN_s] at cc
      rw [Nat.min_eq_left (show i ≤ n 7 by omega)]
      have skip : ¬ z_hit σ k (nI y) i → c0 ≤ mc ∧ n0 ≤ ms ∧ w_X8_strikeThings_l5 (ad 9 0) (some (ad 8 k)) (nI y) mc ms post (d + 1) c0 n0 S (nI (cN (z_hit σ k (nI y)) i)) (nI i + 1) := by
        intro hh
        have eT := cno (fun z => hh z.2)
        rw [iT_F hh] at cc
        rw [eT] at cc
        rw [qn_s]
        exact ⟨by omega, by omega, cc ad S mc ms c0 n0 post R hc hn h⟩
      refine ⟨fun hl => skip (fun z => hl z.1), fun hl => ⟨o7.1, o8.1, ?_⟩⟩
      rw [Classical.not_not] at hl
      rw [o8.2.2.2.2.2.2.2.2.1, f7, o7.2.2.2.2.2.1, t4, o8.2.2.1, f1, o7.2.1, t0]
      refine ⟨fun hd => skip (fun z => by have := z.2; rw [← not_lt32] at this; exact this hd), fun hd => ⟨o9.1, tN T1 12 0 - tN T 12 0, 2 * (tN T1 12 0 - tN T 12 0), by omega, by omega, ?_⟩⟩
      have hh : z_hit σ k (nI y) i := ⟨hl, by rw [← not_lt32]; exact hd⟩
      rw [iT_T hh] at cc
      refine (cpay hin hh).2 ad S _ _ _ R (Nat.le_refl _) (Nat.le_refl _) (fun ad1 S1 R1 e1 => ⟨by omega, by omega, ?_⟩)
      rw [qn_s, qn_s, ← e1 8 k (by decide), ← e1 9 0 (by decide)]
      exact cc ad1 S1 mc ms _ _ post R1 (by omega) (by omega) (fun ad' S' R' e' => h ad' S' R' (fun l j hl => (e' l j hl).trans (e1 l j hl)))
    · rw [iT_F hin]
      have eT := cno (fun z => hin z.1)
      rw [eT] at cc
      rw [Nat.min_eq_right (show n 7 ≤ i + 1 by omega)] at cc
      rw [Nat.min_eq_right (show n 7 ≤ i by omega), qn_s]
      exact ⟨fun _ => ⟨by omega, by omega, cc ad S mc ms c0 n0 post R hc hn h⟩, fun a e => (by cases e)⟩
end C
