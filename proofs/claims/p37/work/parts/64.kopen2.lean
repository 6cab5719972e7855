/-! open: the call -/
section C
variable {ad : Nat → Nat → Nat} {S : PT} {T : CT} {σ : SG} {n len : Nat → Nat} {μ : MU} {pl : Nat → Nat} {B E : Nat}
/-- works and a metre of theirs -/
theorem of_n (H : DQ T σ n) {x y : Int32} (h : z_of σ x y) : ∃ k s i : Nat, k < n 8 ∧ x = nI k ∧ y = nI i ∧ s < n 5 ∧ i < z_len σ s ∧ i < 40 ∧ σ 25 k = nI s ∧ z_at σ k (nI i) = 40 * s + i ∧ k < 24 := by
  have h24 : n 8 ≤ 24 := H.1.2.2.2.2.2.1
  obtain ⟨k, s, i, rfl, rfl, hk, hi, es, hs, ea⟩ := of_in H.2.2.2.2.2.2.2 h
  have hkn := lt_wk H h.1
  rw [qn_nat (show k < 2147483648 by omega)] at hkn
  obtain ⟨hs0, -, hlt⟩ := H.2.2.2.2.2.2.1.2.2.1 k hkn
  rw [es, qn_nat (show s < 2147483648 by omega)] at hs0 hlt
  have h2 := h.2.2
  rw [qn_nat (show k < 2147483648 by omega)] at h2
  obtain ⟨g, eg, hg, hg2⟩ := IB_nI H.2.2.2.2.2.2.2 27 k rfl
  rw [eg, qn_nat hg2] at hlt
  rw [eg, qn_le (by omega) hg2] at h2
  exact ⟨k, s, i, hkn, rfl, rfl, hs0, by omega, hi, es, ea, hk⟩
theorem k_open_path (R : RC ad (VC n (z_len σ)) S T) (H : GI T σ μ n pl B E) {k s i : Nat} (hk : k < n 8) (hk24 : k < 24) (hof : z_of σ (nI k) (nI i)) (hs : s < n 5) (hi : i < z_len σ s) (hi40 : i < 40) (es : σ 25 k = nI s) (ea : z_at σ k (nI i) = 40 * s + i) {mc ms : Nat} (hmc : 1 ≤ mc) (hms : 6 ≤ ms) {post : Int32 → PT → Prop} {postX : String → PT → Prop}
    (hx2 : z_off σ k (40 * s + i) (nI i) (n 7) → postX "java/lang/IllegalStateException" S) (b122 : ¬ z_off σ k (40 * s + i) (nI i) (n 7) → w_X8_open_b122 (ad 9 0) (nI k) (nI i) mc ms post postX 0 0 S (some (ad 8 k)) (some (ad 3 (40 * s + i)))) : w_X8_open (ad 9 0) (nI k) (nI i) S mc ms post postX := by
  have qk : (nI k).toNatClampNeg = k := qn_nat (by omega)
  have Hb := H.1.2.2.2.2.2.2.2
  have h6 : n 5 ≤ 6 := H.1.1.2.1
  have es2 : (σ 25 k).toNatClampNeg = s := by rw [es]; exact qn_nat (by omega)
  obtain ⟨w0, w1, w2, w3, w4, w5, w6, w7, w8, w9, w10, w11, w12, w13, w15, w16, w17⟩ := (H.1.2.2.2.1 k hk).1
  unfold w_X8_open
  refine ⟨(RC_o9 R VC_9).1, ?_⟩
  rw [k_worksAt R H.1, iT_T hof.1, qk]
  refine ⟨fun e => (by cases e), fun a48 e48 => ?_⟩
  cases e48
  have o8 := RC_o8 R (VC_8 (n := n) (len := z_len σ) hk)
  refine ⟨o8.1, ?_⟩
  have hof2 := hof.2
  rw [qk] at hof2
  rw [k_ownMetreAt R H.1 hk, iT_T hof2, ea]
  unfold w_X8_open_b19
  refine ⟨by omega, by omega, fun e => (by cases e), fun a33 e33 => ⟨fun e => (by cases e), fun a35 e35 => ?_⟩⟩
  cases e33; cases e35
  have o3 := RC_o3 R (VC_3 (n := n) (len := z_len σ) hs hi hi40)
  obtain ⟨m0, m1, -, -⟩ := H.1.2.2.2.2.2.1 s i hs hi
  have bad71 : z_off σ k (40 * s + i) (nI i) (n 7) → w_X8_open_b71 (ad 9 0) (nI k) (nI i) mc ms post postX 0 0 S := fun hn => ⟨by omega, by omega, by omega, by omega, hx2 hn⟩
  have bad111 : z_off σ k (40 * s + i) (nI i) (n 7) → w_X8_open_b111 (ad 9 0) (nI k) (nI i) mc ms post postX 0 0 S := fun hn => ⟨by omega, by omega, by omega, by omega, hx2 hn⟩
  rw [o8.2.2.2.2.2.2.2.2.2.2.2.1, w10, o8.2.2.2.2.2.2.2.2.2.2.2.2.2.2.2.2.2.1, w16]
  refine ⟨o8.1, fun h3 => bad71 (Or.inl h3), fun h3 => ⟨fun h37 => bad71 (Or.inr (Or.inl h37)), fun h37 => ?_⟩⟩
  have noff : ¬ (¬ σ 34 k &&& 1 = 0 ∧ z_busy σ) → σ 13 (40 * s + i) = -1 → ¬ (σ 12 (40 * s + i) = 0 ∧ aN (fun t => z_susB σ t (σ 25 k) (nI i)) (n 7)) → ¬ z_off σ k (40 * s + i) (nI i) (n 7) := by
    rintro a1 a2 a3 (z | z | z | z | z)
    · exact z h3
    · exact z h37
    · exact a1 z
    · exact z a2
    · exact a3 z
  have b82 : ¬ (¬ σ 34 k &&& 1 = 0 ∧ z_busy σ) → w_X8_open_b82 (ad 9 0) (nI k) (nI i) mc ms post postX 0 0 S (some (ad 8 k)) (some (ad 3 (40 * s + i))) := by
    intro hq
    unfold w_X8_open_b82
    refine ⟨by omega, by omega, _, rfl, o3.1, ?_⟩
    rw [o3.2.2.1, m1, o3.2.1, m0]
    refine ⟨fun h13 => bad111 (Or.inr (Or.inr (Or.inr (Or.inl h13)))), fun h13 => ⟨fun h12 => b122 (noff hq h13 (fun z => h12 z.1)), fun h12 => ⟨_, rfl, o8.1, (RC_o9 R VC_9).1, ?_⟩⟩⟩
    have p802 : gP S 802 (ad 8 k) = some (ad 5 s) := by rw [o8.2.2.2.1, w2, es2]; rfl
    have hy : 0 ≤ nI i ∧ nI i ≤ σ 2 s - 1 := by
      have hl := z_len_i Hb s
      rw [hl.1, ile, ile, tsub, nI_toInt (by omega), nI_toInt (by omega), I0, show (1 : Int32).toInt = 1 from by decide]
      omega
    rw [p802, k_isSuspect R H.1 hs hy, bI_0, ← es]
    exact ⟨fun ha => b122 (noff hq h13 (fun z => ha z.2)), fun ha => bad111 (Or.inr (Or.inr (Or.inr (Or.inr ⟨h12, Classical.not_not.mp ha⟩))))⟩
  rw [k_hasCondition R hk (H.1.2.2.2.1 k hk).1, bI_0]
  refine ⟨fun hc => b82 (fun z => hc z.1), fun hc => ⟨(RC_o9 R VC_9).1, ?_⟩⟩
  rw [k_isBusy R H.1, bI_0]
  exact ⟨fun hb => b82 (fun z => hb z.2), fun hb => bad71 (Or.inr (Or.inr (Or.inl ⟨Classical.not_not.mp hc, Classical.not_not.mp hb⟩)))⟩
theorem k_open (H : GI T σ μ n pl B E) (hB : B + 30 ≤ 262144) (x y : Int32) : ∃ T', (q_open σ x y (n 7) = 0 → GI T' (u_open σ x y (n 7)) (m_open σ μ x y (n 7)) n pl (B + 30) E) ∧ SW T T' ∧ (tN T 12 0 ≤ tN T' 12 0 ∧ tN T' 12 0 ≤ 262144 ∧ (¬ q_open σ x y (n 7) = 0 → tN T' 12 0 = tN T 12 0)) ∧
    ∀ (ad : Nat → Nat → Nat) (S : PT) (mc ms : Nat) (post : Int32 → PT → Prop) (postX : String → PT → Prop), RC ad (VC n (z_len σ)) S T → 1 + (tN T' 12 0 - tN T 12 0) ≤ mc → 6 + 2 * (tN T' 12 0 - tN T 12 0) ≤ ms →
    (q_open σ x y (n 7) = 1 → postX "java/lang/IndexOutOfBoundsException" S) → (q_open σ x y (n 7) = 2 → postX "java/lang/IllegalStateException" S) →
    (q_open σ x y (n 7) = 0 → ∀ ad' S', RC ad' (VC n (z_len σ)) S' T' → (∀ k i, k ≠ 12 → ad' k i = ad k i) → post (z_struck σ x.toNatClampNeg y (n 7)) S') → w_X8_open (ad 9 0) x y S mc ms post postX := by
  by_cases hof : z_of σ x y
  · obtain ⟨k, s, i, hk, rfl, rfl, hs, hi, hi40, es, ea, hk24⟩ := of_n H.1 hof
    have qk : (nI k).toNatClampNeg = k := qn_nat (by omega)
    have Hb := H.1.2.2.2.2.2.2.2
    have h6 : n 5 ≤ 6 := H.1.1.2.1
    have es2 : (σ 25 k).toNatClampNeg = s := by rw [es]; exact qn_nat (by omega)
    obtain ⟨w0, w1, w2, w3, w4, w5, w6, w7, w8, w9, w10, w11, w12, w13, w15, w16, w17⟩ := (H.1.2.2.2.1 k hk).1
    unfold q_open z_struck
    rw [qk, ea, iT_F (show ¬ ¬ _ from fun z => z hof)]
    by_cases hoff0 : z_off σ k (40 * s + i) (nI i) (n 7)
    · refine ⟨T, fun hq => absurd hq (by rw [iT_T hoff0]; decide), ⟨rfl, rfl⟩, ⟨Nat.le_refl _, cap_le H, fun _ => rfl⟩, ?_⟩
      intro ad S mc ms post postX R hmc hms hx1 hx2 h
      exact k_open_path R H hk hk24 hof hs hi hi40 es ea (by omega) (by omega) (fun z => hx2 (iT_T z)) (fun z => absurd hoff0 z)
    -- the state behind the strikes
    have main : ∃ T1 μ1, (σ 12 (40 * s + i) = 0 → SL T T1 ∧ GI T1 σ μ1 n pl (B + 30) E ∧ μ1 = z_smu σ μ k (nI i) (n 7)) ∧ (¬ σ 12 (40 * s + i) = 0 → T1 = T ∧ μ1 = μ) ∧ tN T 12 0 ≤ tN T1 12 0 ∧
        (σ 12 (40 * s + i) = 0 → ∀ (ad : Nat → Nat → Nat) (S : PT) (mc ms : Nat) (post : Int32 → PT → Prop), RC ad (VC n (z_len σ)) S T → tN T1 12 0 - tN T 12 0 ≤ mc → 2 * (tN T1 12 0 - tN T 12 0) ≤ ms →
          (∀ ad' S', RC ad' (VC n (z_len σ)) S' (uI T1 813 k (tI T1 813 k + nI (cN (z_hit σ k (nI i)) (n 7)))) → (∀ l j, l ≠ 12 → ad' l j = ad l j) → post (nI (cN (z_hit σ k (nI i)) (n 7))) S') → w_X8_strikeThings (ad 9 0) (some (ad 8 k)) (nI i) S mc ms post) := by
      by_cases h12 : σ 12 (40 * s + i) = 0
      · obtain ⟨T1, G1, sl, cap, c⟩ := g_strike_l (y := i) hk (by omega) 30 0 T μ B rfl H (by omega) (by rw [Nat.zero_min]; rfl)
        refine ⟨T1, _, fun _ => ⟨sl, G1, rfl⟩, fun h => absurd h12 h, cap, fun _ => ?_⟩
        intro ad S mc ms post R hmc hms h
        unfold w_X8_strikeThings
        rw [Nat.zero_min] at c
        exact ⟨31, c ad S mc ms 0 0 post R (by omega) (by omega) h⟩
      · exact ⟨T, μ, fun h => absurd h h12, fun _ => ⟨rfl, rfl⟩, Nat.le_refl _, fun h => absurd h h12⟩
    obtain ⟨T1, μ1, ms1, ms2, cap1, cs⟩ := main
    -- with the finds
    have hT2 : ∃ T2, (σ 12 (40 * s + i) = 0 → T2 = uI T1 813 k (tI T1 813 k + nI (cN (z_hit σ k (nI i)) (n 7)))) ∧ (¬ σ 12 (40 * s + i) = 0 → T2 = T) ∧ GI T2 (up2 (up2 σ 49 0 0) 36 k (σ 36 k + iT (σ 12 (40 * s + i) = 0) (nI (cN (z_hit σ k (nI i)) (n 7))) 0)) μ1 n pl (B + 30) E ∧ SW T T2 ∧ tN T2 12 0 = tN T1 12 0 ∧ μ1 = m_open σ μ (nI k) (nI i) (n 7) := by
      by_cases h12 : σ 12 (40 * s + i) = 0
      · obtain ⟨sl, G1, em⟩ := ms1 h12
        have e13 : tI T1 813 k = σ 36 k := by rw [sl.1 813 (by omega), w13]
        refine ⟨_, fun _ => rfl, fun h => absurd h12 h, ?_, ⟨sl.2.1, sl.2.2.2.1⟩, rfl, ?_⟩
        · rw [iT_T h12, e13]
          exact gp_wk (gp_49 G1 0) hk (Or.inr (Or.inr (Or.inr (Or.inl ⟨rfl, rfl⟩)))) (Ilo _) (by have := Ihi (σ 36 k + nI (cN (z_hit σ k (nI i)) (n 7))); simp only [bh]; omega)
        · unfold m_open
          rw [qk, ea, iT_T h12]; exact em
      · obtain ⟨eT, em⟩ := ms2 h12
        refine ⟨T, fun h => absurd h h12, fun _ => rfl, ?_, ⟨rfl, rfl⟩, by rw [eT], ?_⟩
        · rw [iT_F h12, Int32.add_zero, em]
          have := up2_same (up2 σ 49 0 0) 36 k
          rw [up2_f _ _ _ _ (show 36 ≠ 49 by decide)] at this
          rw [this]
          exact GI_up (by omega) (Nat.le_refl _) (gp_49 H 0)
        · unfold m_open
          rw [qk, ea, iT_F h12]; exact em
    obtain ⟨T2, t2a, t2b, G2, sw2, cap2, em⟩ := hT2
    refine ⟨uI (uI (uI T2 300 (40 * s + i) 1) 301 (40 * s + i) (nI k)) 815 k (tI T2 815 k + 1), fun hq => ?_, ⟨sw2.1, sw2.2⟩, ?_, ?_⟩
    · obtain ⟨hoff, -⟩ := q1 (by decide) hq
      have h13 : σ 13 (40 * s + i) = -1 := Classical.byContradiction (fun h => hoff (Or.inr (Or.inr (Or.inr (Or.inl h)))))
      rw [← em]
      refine g_open G2 hk hs ?_ ?_ ?_
      · have : z_len (up2 (up2 σ 49 0 0) 36 k (σ 36 k + iT (σ 12 (40 * s + i) = 0) (nI (cN (z_hit σ k (nI i)) (n 7))) 0)) = z_len σ := z_len_c (fun j => by rw [up2_f _ _ _ _ (by decide), up2_f _ _ _ _ (by decide)])
        rw [this]; exact hi
      · rw [up2_f _ _ _ _ (by decide), up2_f _ _ _ _ (by decide)]; exact h13
      · unfold u_open z_struck
        rw [qk, ea]
    · show tN T 12 0 ≤ tN T2 12 0 ∧ tN T2 12 0 ≤ 262144 ∧ (¬ iT (z_off σ k (40 * s + i) (nI i) (n 7)) (2 : Int32) 0 = 0 → tN T2 12 0 = tN T 12 0)
      exact ⟨by rw [cap2]; exact cap1, cap_le G2, fun z => absurd (iT_F hoff0) z⟩
    intro ad S mc ms post postX R hmc hms hx1 hx2 h
    replace hmc : 1 + (tN T2 12 0 - tN T 12 0) ≤ mc := hmc
    replace hms : 6 + 2 * (tN T2 12 0 - tN T 12 0) ≤ ms := hms
    rw [cap2] at hmc hms
    refine k_open_path R H hk hk24 hof hs hi hi40 es ea (by omega) (by omega) (fun z => absurd z hoff0) (fun _ => ?_)
    have o3 := RC_o3 R (VC_3 (n := n) (len := z_len σ) hs hi hi40)
    obtain ⟨m0, m1, -, -⟩ := H.1.2.2.2.2.2.1 s i hs hi
    -- from here on the metre
    have b140 : ∀ (ad1 : Nat → Nat → Nat) (S1 : PT) (c0 n0 : Nat), c0 ≤ mc → n0 ≤ ms → RC ad1 (VC n (z_len σ)) S1 T2 → (∀ l j, l ≠ 12 → ad1 l j = ad l j) → ¬ z_off σ k (40 * s + i) (nI i) (n 7) → w_X8_open_b140 (ad 9 0) (nI k) (nI i) mc ms post postX c0 n0 S1 (some (ad 8 k)) (some (ad 3 (40 * s + i))) (iT (σ 12 (40 * s + i) = 0) (nI (cN (z_hit σ k (nI i)) (n 7))) 0) := by
      intro ad1 S1 c0 n0 hc hn R1 e1 hoff
      unfold w_X8_open_b140
      rw [← e1 8 k (by decide), ← e1 3 (40 * s + i) (by decide)]
      refine ⟨hc, hn, _, rfl, (RC_o3 R1 (VC_3 (n := n) (len := z_len σ) hs hi hi40)).1, ?_⟩
      refine RC_uI R1 (VC_3 (n := n) (len := z_len σ) hs hi hi40) 0 rfl (by decide) (by decide) (fun S2 R2 => ?_)
      have o82 := RC_o8 R2 (VC_8 (n := n) (len := z_len σ) hk)
      have e800 : gI S2 800 (ad1 8 k) = nI k := by rw [o82.2.1, tI_o (by decide), (G2.1.2.2.2.1 k hk).1.1]
      refine ⟨_, rfl, o82.1, ?_⟩
      rw [e800]
      refine RC_uI R2 (VC_3 (n := n) (len := z_len σ) hs hi hi40) 1 rfl (by decide) (by decide) (fun S3 R3 => ?_)
      have o83 := RC_o8 R3 (VC_8 (n := n) (len := z_len σ) hk)
      have e815 : gI S3 815 (ad1 8 k) = tI T2 815 k := by rw [o83.2.2.2.2.2.2.2.2.2.2.2.2.2.2.2.2.1, tI_o (by decide), tI_o (by decide)]
      rw [e815]
      exact RC_uI R3 (VC_8 hk) 15 rfl (by decide) (by decide) (fun S4 R4 => h (iT_F hoff) ad1 S4 R4 e1)
    have b122 : ¬ z_off σ k (40 * s + i) (nI i) (n 7) → w_X8_open_b122 (ad 9 0) (nI k) (nI i) mc ms post postX 0 0 S (some (ad 8 k)) (some (ad 3 (40 * s + i))) := by
      intro hoff
      unfold w_X8_open_b122
      refine ⟨by omega, by omega, _, rfl, o3.1, ?_⟩
      rw [o3.2.1, m0]
      refine ⟨fun h12 => ⟨(RC_o9 R VC_9).1, tN T1 12 0 - tN T 12 0, 2 * (tN T1 12 0 - tN T 12 0), by omega, by omega, ?_⟩, fun h12 => ?_⟩
      · refine cs h12 ad S _ _ _ R (Nat.le_refl _) (Nat.le_refl _) (fun ad1 S1 R1 e1 => ?_)
        rw [← t2a h12] at R1
        have := b140 ad1 S1 (0 + (tN T1 12 0 - tN T 12 0)) (0 + 2 * (tN T1 12 0 - tN T 12 0)) (by omega) (by omega) R1 e1 hoff
        rw [iT_T h12] at this
        exact this
      · have R1 := R
        rw [← t2b h12] at R1
        have := b140 ad S 0 0 (by omega) (by omega) R1 (fun _ _ _ => rfl) hoff
        rw [iT_F h12] at this
        exact this
    exact b122 hoff0
  · have hq : q_open σ x y (n 7) = 1 := by unfold q_open; exact iT_T hof
    refine ⟨T, fun h => by rw [hq] at h; exact absurd h (by decide), ⟨rfl, rfl⟩, ⟨Nat.le_refl _, cap_le H, fun _ => rfl⟩, ?_⟩
    intro ad S mc ms post postX R hmc hms hx1 hx2 h
    unfold w_X8_open
    have b30 : w_X8_open_b30 (ad 9 0) x y mc ms post postX 0 0 S := ⟨by omega, by omega, by omega, by omega, hx1 hq⟩
    refine ⟨(RC_o9 R VC_9).1, ?_⟩
    rw [k_worksAt R H.1]
    by_cases hv : 0 ≤ x ∧ x ≤ σ 23 0 - 1
    · rw [iT_T hv]
      obtain ⟨k, hk, rfl, hk2⟩ := wk_n H.1 hv
      rw [qn_nat hk2]
      refine ⟨fun e => (by cases e), fun a48 e48 => ?_⟩
      cases e48
      refine ⟨(RC_o8 R (VC_8 (n := n) (len := z_len σ) hk)).1, ?_⟩
      have hn : ¬ (σ 26 k ≤ y ∧ y ≤ σ 27 k) := fun z => hof ⟨hv, by rw [qn_nat hk2]; exact z⟩
      rw [k_ownMetreAt R H.1 hk, iT_F hn]
      unfold w_X8_open_b19
      exact ⟨by omega, by omega, fun e => (by cases e), fun a33 e33 => ⟨fun _ => b30, fun a35 e35 => (by cases e35)⟩⟩
    · rw [iT_F hv]
      unfold w_X8_open_b19
      exact ⟨fun _ => ⟨by omega, by omega, fun _ => b30, fun a e => (by cases e)⟩, fun a e => (by cases e)⟩
end C
