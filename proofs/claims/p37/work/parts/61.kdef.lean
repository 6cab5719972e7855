/-! defect, core -/
section C
variable {ad : Nat → Nat → Nat} {S : PT} {T : CT} {σ : SG} {n len : Nat → Nat} {μ : MU} {pl : Nat → Nat} {B E : Nat}
theorem g_fault (H : GI T σ μ n pl B E) (hE : E < 2000000) {p : Nat} (hp : p < 5) : GI (uI T 402 p (tI T 402 p + 1)) (up2 σ 46 p (σ 46 p + 1)) μ n pl B (E + 1) := by
  obtain ⟨⟨h1, h9, h5, h8, h7, h3, hv, hb⟩, ⟨hd, hs⟩, hr, h4, hl, hta, htb, fa, fb, fc, fd, fe, ff, fg, fh, fi⟩ := H
  have eS : ∀ f, ¬ (f = 46) → up2 σ 46 p (σ 46 p + 1) f = σ f := fun f h => sg_o h
  have eI : ∀ F, ¬ (F = 402) → tI (uI T 402 p (tI T 402 p + 1)) F = tI T F := fun F h => sg_o (σ := tI T) h
  have eP : ∀ F9, ¬ False → tP (uI T 402 p (tI T 402 p + 1)) F9 = tP T F9 := fun _ _ => rfl
  have eN : ∀ F9, ¬ False → tN (uI T 402 p (tI T 402 p + 1)) F9 = tN T F9 := fun _ _ => rfl
  have eR : ∀ F9, ¬ False → tR (uI T 402 p (tI T 402 p + 1)) F9 = tR T F9 := fun _ _ => rfl
  have eA : tA (uI T 402 p (tI T 402 p + 1)) = tA T := rfl
  have eJ : tJ (uI T 402 p (tI T 402 p + 1)) = tJ T := rfl
  have eM : μ = μ := rfl
  refine ⟨⟨(DN_c (by rw [eS 1 (by first | omega | exact not_false)]) (by rw [eS 14 (by first | omega | exact not_false)]) (by rw [eS 23 (by first | omega | exact not_false)]) (by rw [eS 40 (by first | omega | exact not_false)]) h1), (D9_d (fun F hF => eI F (by first | omega | exact not_false)) (fun F hF => eP F (by first | omega | exact not_false)) (fun k hk => eN k (by first | omega | exact not_false)) (fun k hk hk2 => eR k (by first | omega | exact not_false)) (by rw [eS 0 (by first | omega | exact not_false)]) h9), (fun j hj => D5_c (fun F hF _ _ => by rw [eI F (by first | omega | exact not_false)]) (fun F hF => by rw [eP F (by first | omega | exact not_false)]) (by rw [eN 15 (by first | omega | exact not_false)]) (by rw [eR 15 (by first | omega | exact not_false)]) (fun f a b _ => by rw [eS f (by first | omega | exact not_false)]) (h5 j hj)), (fun k hk => ⟨D8_c (fun F hF => by rw [eI F (by first | omega | exact not_false)]) (fun F hF => by rw [eP F (by first | omega | exact not_false)]) (fun f a b => by rw [eS f (by first | omega | exact not_false)]) (by unfold z_opens; rw [eS 13 (by first | omega | exact not_false)]) (h8 k hk).1, D8a_c (by rw [eI 814 (by first | omega | exact not_false)]) (eS 39 (by first | omega | exact not_false)) (h8 k hk).2⟩), (fun t ht => D7_c (fun F hF => by rw [eI F (by first | omega | exact not_false)]) (fun F hF => by rw [eP F (by first | omega | exact not_false)]) (fun f a b => by rw [eS f (by first | omega | exact not_false)]) (eS 2 (by first | omega | exact not_false)) (h7 t ht)), (fun j i hj hi => D3_c (fun F hF => by rw [eI F (by first | omega | exact not_false)]) (by rw [eP 303 (by first | omega | exact not_false)]) (by rw [eS 12 (by first | omega | exact not_false)]) (by rw [eS 13 (by first | omega | exact not_false)]) (eS 41 (by first | omega | exact not_false)) (h3 j i hj (by rw [show z_len _ = z_len σ from z_len_c (fun j => by rw [eS 2 (by first | omega | exact not_false)])] at hi; exact hi))), (DV_c (fun f hf => eS f (by first | omega | exact not_false)) hv), ?_⟩, ⟨(fun k hk => D1_c (fun F hF => by rw [eI F (by first | omega | exact not_false)]) (fun F hF => by rw [eP F (by first | omega | exact not_false)]) (fun f a b => eS f (by first | omega | exact not_false)) (hd k hk)), (DS_c (eI 508 (by first | omega | exact not_false)) (eS 7 (by first | omega | exact not_false)) hs)⟩, (DR_c (fun f hf => eS f (by first | omega | exact not_false)) hr), ?_, (DL_c (eI 201 (by first | omega | exact not_false)) (eP 200 (by first | omega | exact not_false)) (eN 12 (by first | omega | exact not_false)) eA eM hl), (DTa_c (fun F hF => eI F (by first | omega | exact not_false)) (fun F hF => eP F (by first | omega | exact not_false)) (fun f hf => eS f (by first | omega | exact not_false)) hta), (DTb_c (eI 1102 (by first | omega | exact not_false)) (eP 1101 (by first | omega | exact not_false)) (eN 20 (by first | omega | exact not_false)) (eR 20 (by first | omega | exact not_false)) htb), (FRa_c (fun f hf => eS f (by first | omega | exact not_false)) fa), (FRb_c (eS 2 (by first | omega | exact not_false)) (eS 12 (by first | omega | exact not_false)) fb), (FRc_c (eS 20 (by first | omega | exact not_false)) fc), (FRd_c (fun f hf => eS f (by first | omega | exact not_false)) fd), (FRe_c (eS 13 (by first | omega | exact not_false)) fe), (FRf_c (eS 39 (by first | omega | exact not_false)) ff), (FRg_c (eS 45 (by first | omega | exact not_false)) fg), (FRh_c (eS 7 (by first | omega | exact not_false)) (eS 40 (by first | omega | exact not_false)) fh), ?_⟩
  · exact IB_up hb 46 p (Ilo _) (by have := Ihi (σ 46 p + 1); simp only [bh]; omega)
  · intro w hw
    have D := h4 w hw
    have ez : z_fb (up2 σ 46 p (σ 46 p + 1)) (nI w) = z_fb σ (nI w) := by funext k; unfold z_fb; rw [eS 24 (by decide), eS 42 (by decide)]
    unfold D4 at *
    rw [eJ, ez, eS 47 (by decide), eI 401 (by decide), eI 403 (by decide)]
    refine ⟨D.1, fun h5 => ⟨(D.2 h5).1, ?_, (D.2 h5).2.2⟩⟩
    by_cases e : w = p
    · subst e
      rw [tI_s, up2_s, (D.2 h5).2.1]
    · rw [tI_i e, up2_i _ _ e]
      exact (D.2 h5).2.1
  · intro w
    by_cases e : w = p
    · subst e
      have := fi w
      rw [up2_s, tadd, show (1 : Int32).toInt = 1 from by decide]
      omega
    · rw [up2_i _ _ e]
      have := fi w
      omega
theorem k_countFault (R : RC ad (VC n (z_len σ)) S T) (H : DQ T σ n) {p : Nat} (hp : p < 5) {post : PT → Prop} (h : ∀ S', RC ad (VC n (z_len σ)) S' (uI T 402 p (tI T 402 p + 1)) → post S') : w_X8_countFault (ad 9 0) (nI p) S post := by
  have in5 : 0 ≤ nI p ∧ nI p ≤ 5 := by rw [ile, ile, nI_toInt (by omega), I0, show (5 : Int32).toInt = 5 from by decide]; omega
  unfold w_X8_countFault w_X8_countFault_b20
  refine ⟨(RC_o9 R VC_9).1, ?_⟩
  rw [k_partyAt R H, iT_T in5, qn_nat (show p < 2147483648 by omega)]
  refine ⟨fun e => (by cases e), fun a e => ?_⟩
  cases e
  have o4 := RC_o4 R (VC_4 (n := n) (len := z_len σ) (show p < 6 by omega))
  refine ⟨o4.1, ?_⟩
  rw [o4.2.2.2.1]
  exact RC_uI R (VC_4 (by omega)) 2 rfl (by decide) (by decide) h
theorem k_countCore (R : RC ad (VC n (z_len σ)) S T) (H : DQ T σ n) {p : Nat} (hp : p < 5) {post : PT → Prop} (h : ∀ S', RC ad (VC n (z_len σ)) S' (uI T 403 p (tI T 403 p + 1)) → post S') : w_X8_countCore (ad 9 0) (nI p) S post := by
  have in5 : 0 ≤ nI p ∧ nI p ≤ 5 := by rw [ile, ile, nI_toInt (by omega), I0, show (5 : Int32).toInt = 5 from by decide]; omega
  unfold w_X8_countCore w_X8_countCore_b20
  refine ⟨(RC_o9 R VC_9).1, ?_⟩
  rw [k_partyAt R H, iT_T in5, qn_nat (show p < 2147483648 by omega)]
  refine ⟨fun e => (by cases e), fun a e => ?_⟩
  cases e
  have o4 := RC_o4 R (VC_4 (n := n) (len := z_len σ) (show p < 6 by omega))
  refine ⟨o4.1, ?_⟩
  rw [o4.2.2.2.2]
  exact RC_uI R (VC_4 (by omega)) 3 rfl (by decide) (by decide) h
theorem k_countFill (R : RC ad (VC n (z_len σ)) S T) (H : DQ T σ n) {p : Nat} (hp : p < 5) {post : PT → Prop} (h : ∀ S', RC ad (VC n (z_len σ)) S' (uI T 401 p (tI T 401 p + 1)) → post S') : w_X8_countFill (ad 9 0) (nI p) S post := by
  have in5 : 0 ≤ nI p ∧ nI p ≤ 5 := by rw [ile, ile, nI_toInt (by omega), I0, show (5 : Int32).toInt = 5 from by decide]; omega
  unfold w_X8_countFill w_X8_countFill_b20
  refine ⟨(RC_o9 R VC_9).1, ?_⟩
  rw [k_partyAt R H, iT_T in5, qn_nat (show p < 2147483648 by omega)]
  refine ⟨fun e => (by cases e), fun a e => ?_⟩
  cases e
  have o4 := RC_o4 R (VC_4 (n := n) (len := z_len σ) (show p < 6 by omega))
  refine ⟨o4.1, ?_⟩
  rw [o4.2.2.1]
  exact RC_uI R (VC_4 (by omega)) 1 rfl (by decide) (by decide) h
theorem k_defect (H : GI T σ μ n pl B E) (hB : B < 262144) (hE : E < 2000000) (x y d : Int32) : ∃ T', (q_asks σ x y d = 0 → GI T' (u_defect σ (z_liab σ x.toNatClampNeg (z_q x y) d (n 1))) (m_defect σ μ (z_liab σ x.toNatClampNeg (z_q x y) d (n 1))) n pl (B + 1) (E + 1)) ∧ SW T T' ∧ (tN T 12 0 ≤ tN T' 12 0 ∧ tN T' 12 0 ≤ 262144 ∧ (¬ q_asks σ x y d = 0 → tN T' 12 0 = tN T 12 0)) ∧
    ∀ (ad : Nat → Nat → Nat) (S : PT) (mc ms : Nat) (post : Int32 → PT → Prop) (postX : String → PT → Prop), RC ad (VC n (z_len σ)) S T → 1 + (tN T' 12 0 - tN T 12 0) ≤ mc → 6 + 2 * (tN T' 12 0 - tN T 12 0) ≤ ms →
    (q_asks σ x y d = 1 → postX "java/lang/IndexOutOfBoundsException" S) → (q_asks σ x y d = 2 → postX "java/lang/IllegalArgumentException" S) →
    (q_asks σ x y d = 0 → ∀ ad' S', RC ad' (VC n (z_len σ)) S' T' → (∀ k i, k ≠ 12 → ad' k i = ad k i) → post (z_liab σ x.toNatClampNeg (z_q x y) d (n 1)) S') → w_X8_defect (ad 9 0) x y d S mc ms post postX := by
  have mono : ∀ {T' σ' μ'}, GI T' σ' μ' n pl B E → GI T' σ' μ' n pl (B + 1) (E + 1) := by
    intro T' σ' μ' G
    obtain ⟨a1, a2, a3, a4, ⟨r, k, l1, l2, l3⟩, a6, a7, a8, a9, a10, a11, a12, a13, a14, a15, a16⟩ := G
    exact ⟨a1, a2, a3, a4, ⟨r, k, l1, by omega, l3⟩, a6, a7, a8, a9, a10, a11, a12, a13, a14, a15, fun p => by have := a16 p; omega⟩
  generalize hw : z_liab σ x.toNatClampNeg (z_q x y) d (n 1) = w
  have hwn : w = -1 ∨ ∃ l : Nat, l < n 8 ∧ w = nI l ∧ l < 2147483648 := by rw [← hw]; exact liab_n H.1 _ _ _
  have main : ∃ T' T1, (q_asks σ x y d = 0 → w = -1 → T' = T ∧ GI T' (u_defect σ w) (m_defect σ μ w) n pl (B + 1) (E + 1)) ∧ (q_asks σ x y d = 0 → ∀ l, l < n 8 → w = nI l → l < 2147483648 → ∃ p : Nat, p < 5 ∧ σ 24 l = nI p ∧ T' = uI T1 402 p (tI T1 402 p + 1) ∧ GI T1 (up2 σ 49 0 0) (m_defect σ μ w) n pl (B + 1) E ∧ GI T' (u_defect σ w) (m_defect σ μ w) n pl (B + 1) (E + 1) ∧ PMe n (z_len σ) T T1 (fun ad S mc ms post => w_X8_pay (ad 9 0) (nI p) (nI 5) 300 S mc ms post)) ∧ SW T T' ∧ (tN T 12 0 ≤ tN T' 12 0 ∧ tN T' 12 0 ≤ 262144 ∧ (¬ q_asks σ x y d = 0 → tN T' 12 0 = tN T 12 0)) := by
    refine Classical.byCases (fun hq0 : q_asks σ x y d = 0 => ?_) (fun hq0 : ¬ q_asks σ x y d = 0 => ⟨T, T, fun h => absurd h hq0, fun h => absurd h hq0, ⟨rfl, rfl⟩, Nat.le_refl _, cap_le H, fun _ => rfl⟩)
    rcases hwn with h | ⟨l, hl, el, hl2⟩
    · refine ⟨T, T, fun _ _ => ⟨rfl, ?_⟩, fun _ l _ e _ => ?_, ⟨rfl, rfl⟩, Nat.le_refl _, cap_le H, fun h => absurd hq0 h⟩
      · unfold u_defect m_defect
        rw [iT_T h, iT_T h]
        exact mono (gp_49 H 0)
      · rw [h, ieq, nI_toInt (by omega), show (-1 : Int32).toInt = -1 from by decide] at e; omega
    · have hne : ¬ w = -1 := by rw [el, ieq, nI_toInt hl2, show (-1 : Int32).toInt = -1 from by decide]; omega
      obtain ⟨p, hp, ep, ep2⟩ := pr_n H.1.2.2.2.2.2.2.2 l
      obtain ⟨T1, G1, sl, c⟩ := g_pay (gp_49 H 0) hB (show p < 6 by omega) (show 5 < 6 by decide) (a := 300) (by decide) (by decide)
      have hl3 : z_len (up2 σ 49 0 0) = z_len σ := z_len_c (fun i => by rw [up2_f _ _ _ _ (by decide)])
      rw [hl3] at c
      have em : m_defect σ μ w = z_pay μ p 5 300 := by unfold m_defect; rw [iT_F hne, el, qn_nat hl2, ep2]
      have eu : u_defect σ w = up2 (up2 σ 49 0 0) 46 p (up2 σ 49 0 0 46 p + 1) := by unfold u_defect; rw [iT_F hne, el, qn_nat hl2, ep2, up2_f _ _ _ _ (show 46 ≠ 49 by decide)]
      rw [em, eu]
      have G2 := g_fault G1 hE hp
      refine ⟨uI T1 402 p (tI T1 402 p + 1), T1, fun _ h => absurd h hne, fun _ l' hl' e' hl2' => ?_, ⟨sl.2.1, sl.2.2.2.1⟩, c.1, cap_le G2, fun h => absurd hq0 h⟩
      have : l' = l := by rw [el] at e'; exact ((qn_eq hl2 hl2').mp e').symm
      subst this
      exact ⟨p, hp, ep, rfl, G1, G2, c⟩
  obtain ⟨T', T1, hm1, hm2, sw, hcap⟩ := main
  refine ⟨T', fun hq0 => ?_, sw, hcap, ?_⟩
  · rcases hwn with h | ⟨l, hl, el, hl2⟩
    · exact (hm1 hq0 h).2
    · obtain ⟨p, _, _, _, _, g, _⟩ := hm2 hq0 l hl el hl2
      exact g
  intro ad S mc ms post postX R hmc hms hx1 hx2 h
  unfold w_X8_defect
  unfold q_asks at hx1 hx2 h hm1 hm2
  have b34 : ¬ z_mt σ x y → w_X8_defect_b34 (ad 9 0) x y d mc ms post postX 0 0 S := fun hn => ⟨by omega, by omega, by omega, by omega, hx1 (iT_T hn)⟩
  refine ⟨(RC_o9 R VC_9).1, ?_⟩
  rw [k_streetAt R H.1]
  unfold w_X8_defect_b22
  by_cases hv : 0 ≤ x ∧ x ≤ σ 1 0 - 1
  · rw [iT_T hv]
    obtain ⟨s, hs, rfl, hs2⟩ := st_n H.1 hv
    rw [qn_nat hs2]
    refine ⟨fun e => (by cases e), fun a9 e => ?_⟩
    cases e
    refine ⟨(RC_o5 R (VC_5 hs)).1, ?_⟩
    rw [k_metreAt R H.1 hs]
    refine ⟨by omega, by omega, fun e => (by cases e), fun a9 e => ?_⟩
    by_cases ha : 0 ≤ y ∧ y ≤ σ 2 s - 1
    · rw [iT_T ha]
      obtain ⟨i, hi, rfl, hi40⟩ := len_in H.1 ha
      have hm : z_mt σ (nI s) (nI i) := by unfold z_mt; rw [qn_nat hs2]; exact ⟨hv, ha⟩
      rw [iT_F (show ¬ ¬ _ from fun n => n hm)] at h hx2 hm1 hm2
      rw [qn_nat (show i < 2147483648 by omega)]
      refine ⟨fun e => (by cases e), fun a3 e3 => ?_⟩
      have b55 : ¬ (0 ≤ d ∧ d ≤ 300) → w_X8_defect_b55 (ad 9 0) (nI s) (nI i) d mc ms post postX 0 0 S := fun hn => ⟨by omega, by omega, by omega, by omega, hx2 (iT_T hn)⟩
      refine ⟨fun hd => b55 (fun z => by have := z.1; rw [← not_lt32] at this; exact this hd), fun hd => ⟨fun hd2 => ⟨(RC_o9 R VC_9).1, ?_⟩, fun hd2 => b55 (fun z => hd2 z.2)⟩⟩
      have hq0 : iT (¬ (0 ≤ d ∧ d ≤ 300)) (2 : Int32) 0 = 0 := iT_F (fun z => z ⟨by rw [← not_lt32]; exact hd, hd2⟩)
      have h9 := h hq0
      rw [qn_nat hs2, z_q, at_eq] at hw
      refine k_whoIsLiable R H.1 H.2.1 hs hi d ?_
      rw [hw]
      rcases hwn with hw1 | ⟨l, hl, el, hl2⟩
      · rw [iT_T hw1]
        refine ⟨fun _ => ?_, fun a8 e8 => (by cases e8)⟩
        have eT := (hm1 hq0 hw1).1
        rw [eT, hw1] at h9
        exact h9 ad S R (fun _ _ _ => rfl)
      · have hne : ¬ w = -1 := by rw [el, ieq, nI_toInt hl2, show (-1 : Int32).toInt = -1 from by decide]; omega
        rw [iT_F hne]
        obtain ⟨p, hp, ep, eT, G1, G2, c⟩ := hm2 hq0 l hl el hl2
        rw [el, qn_nat hl2]
        refine ⟨fun e => (by cases e), fun a8 e8 => ?_⟩
        cases e8
        have o8 := RC_o8 R (VC_8 (len := z_len σ) hl)
        have e801 : gI S 801 (ad 8 l) = nI p := by rw [o8.2.2.1, (H.1.2.2.2.1 l hl).1.2.1, ep]
        have ecap : tN T' 12 0 = tN T1 12 0 := by rw [eT]; rfl
        refine ⟨o8.1, (RC_o9 R VC_9).1, tN T1 12 0 - tN T 12 0, 2 * (tN T1 12 0 - tN T 12 0), by omega, by omega, ?_⟩
        rw [e801]
        refine c.2 ad S _ _ _ R (Nat.le_refl _) (Nat.le_refl _) (fun ad1 S1 R1 e1 => ?_)
        rw [← e1 8 l (by decide), ← e1 9 0 (by decide)]
        have hl3 : z_len (up2 σ 49 0 0) = z_len σ := z_len_c (fun i => by rw [up2_f _ _ _ _ (by decide)])
        have R3 := R1
        rw [← hl3] at R3
        have o81 := RC_o8 R3 (VC_8 (len := z_len (up2 σ 49 0 0)) hl)
        have e8012 : gI S1 801 (ad1 8 l) = nI p := by rw [o81.2.2.1, (G1.1.2.2.2.1 l hl).1.2.1, up2_f _ _ _ _ (by decide), ep]
        refine ⟨o81.1, (RC_o9 R3 VC_9).1, ?_⟩
        rw [e8012]
        refine k_countFault R3 G1.1 hp (fun S2 R2 => ?_)
        rw [← eT, hl3] at R2
        have o82 := RC_o8 R2 (VC_8 (len := z_len σ) hl)
        refine ⟨o82.1, ?_⟩
        rw [o82.2.1, (G2.1.2.2.2.1 l hl).1.1, ← el]
        exact h9 ad1 S2 R2 e1
    · rw [iT_F ha]
      exact ⟨fun _ => b34 (fun z => ha (by have := z.2; rw [qn_nat hs2] at this; exact this)), fun a e => (by cases e)⟩
  · rw [iT_F hv]
    exact ⟨fun _ => ⟨by omega, by omega, fun _ => b34 (fun z => hv z.1), fun a e => (by cases e)⟩, fun a e => (by cases e)⟩
end C
