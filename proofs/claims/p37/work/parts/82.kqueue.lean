/-! queues -/
theorem z_w0_11 (σ : SG) : ∀ (m j : Nat), j < m → z_w0 σ m 11 j = 0
  | 0, _, h => absurd h (Nat.not_lt_zero _)
  | m + 1, j, h => by
    rw [z_w0]
    by_cases e : j = m
    · rw [e, up2_s]
    · rw [up2_i _ _ e]; exact z_w0_11 σ m j (by omega)
theorem z_w2_10 (σ : SG) (nW : Nat) : ∀ (m j : Nat), m ≤ j → z_w2 σ nW m 10 j = σ 10 j
  | 0, _, _ => rfl
  | m + 1, j, h => by rw [z_w2, up2_i _ _ (by omega)]; exact z_w2_10 σ nW m j (by omega)
theorem taken_c {σ σ' : SG} (h : ∀ f, (f = 13 ∨ f = 25 ∨ f = 33 ∨ f = 37) → σ' f = σ f) (x : Int32) (nW : Nat) : z_taken σ' x nW = z_taken σ x nW := by
  unfold z_taken z_takes z_opens
  rw [h 13 (by omega), h 25 (by omega), h 33 (by omega), h 37 (by omega)]
section C
variable {ad : Nat → Nat → Nat} {S : PT} {T : CT} {σ : SG} {n len : Nat → Nat} {μ : MU} {pl : Nat → Nat} {B E : Nat}
theorem gp_q (H : GI T σ μ n pl B E) {T' : CT} {σ' : SG} (L : S5 (fun F => F = 510 ∨ F = 511) T T') (es : ∀ f, ¬ (f = 10 ∨ f = 11) → σ' f = σ f) (hb' : IB σ') (h0 : ∀ j, j < n 5 → tI T' 510 j = 0) (h1' : ∀ j, j < n 5 → tI T' 511 j = σ' 10 j) (hf : ∀ j, n 5 ≤ j → σ' 10 j = σ 10 j) : GI T' σ' μ n pl B E := by
  obtain ⟨⟨h1, h9, h5, h8, h7, h3, hv, hb⟩, ⟨hd, hs⟩, hr, h4, hl, hta, htb, fa, fb, fc, fd, fe, ff, fg, fh, fi⟩ := H
  have eS : ∀ f, ¬ (f = 10 ∨ f = 11) → σ' f = σ f := es
  have eI : ∀ F, ¬ (F = 510 ∨ F = 511) → tI T' F = tI T F := L.1
  have eP : ∀ F, ¬ False → tP T' F = tP T F := fun F _ => by rw [L.2.1]
  have eN : ∀ F, ¬ False → tN T' F = tN T F := fun F _ => by rw [L.2.2.1]
  have eR : ∀ F, ¬ False → tR T' F = tR T F := fun F _ => by rw [L.2.2.2.1]
  have eJ : tJ T' = tJ T := L.2.2.2.2.1
  have eA : tA T' = tA T := L.2.2.2.2.2.1
  have eM : μ = μ := rfl
  refine ⟨⟨(DN_c (by rw [eS 1 (by first | omega | exact not_false)]) (by rw [eS 14 (by first | omega | exact not_false)]) (by rw [eS 23 (by first | omega | exact not_false)]) (by rw [eS 40 (by first | omega | exact not_false)]) h1), (D9_d (fun F hF => eI F (by first | omega | exact not_false)) (fun F hF => eP F (by first | omega | exact not_false)) (fun k hk => eN k (by first | omega | exact not_false)) (fun k hk hk2 => eR k (by first | omega | exact not_false)) (by rw [eS 0 (by first | omega | exact not_false)]) h9), ?_, (fun k hk => ⟨D8_c (fun F hF => by rw [eI F (by first | omega | exact not_false)]) (fun F hF => by rw [eP F (by first | omega | exact not_false)]) (fun f a b => by rw [eS f (by first | omega | exact not_false)]) (by unfold z_opens; rw [eS 13 (by first | omega | exact not_false)]) (h8 k hk).1, D8a_c (by rw [eI 814 (by first | omega | exact not_false)]) (eS 39 (by first | omega | exact not_false)) (h8 k hk).2⟩), (fun t ht => D7_c (fun F hF => by rw [eI F (by first | omega | exact not_false)]) (fun F hF => by rw [eP F (by first | omega | exact not_false)]) (fun f a b => by rw [eS f (by first | omega | exact not_false)]) (eS 2 (by first | omega | exact not_false)) (h7 t ht)), (fun j i hj hi => D3_c (fun F hF => by rw [eI F (by first | omega | exact not_false)]) (by rw [eP 303 (by first | omega | exact not_false)]) (by rw [eS 12 (by first | omega | exact not_false)]) (by rw [eS 13 (by first | omega | exact not_false)]) (eS 41 (by first | omega | exact not_false)) (h3 j i hj (by rw [show z_len _ = z_len σ from z_len_c (fun j => by rw [eS 2 (by first | omega | exact not_false)])] at hi; exact hi))), (DV_c (fun f hf => eS f (by first | omega | exact not_false)) hv), hb'⟩, ⟨(fun k hk => D1_c (fun F hF => by rw [eI F (by first | omega | exact not_false)]) (fun F hF => by rw [eP F (by first | omega | exact not_false)]) (fun f a b => eS f (by first | omega | exact not_false)) (hd k hk)), (DS_c (eI 508 (by first | omega | exact not_false)) (eS 7 (by first | omega | exact not_false)) hs)⟩, (DR_c (fun f hf => eS f (by first | omega | exact not_false)) hr), (fun p hp => D4_c (by rw [eJ]) (fun F hF => by rw [eI F (by first | omega | exact not_false)]) (by rw [eM]) (eS 24 (by first | omega | exact not_false)) (eS 42 (by first | omega | exact not_false)) (by rw [eS 46 (by first | omega | exact not_false)]) (by rw [eS 47 (by first | omega | exact not_false)]) (h4 p hp)), (DL_c (eI 201 (by first | omega | exact not_false)) (eP 200 (by first | omega | exact not_false)) (eN 12 (by first | omega | exact not_false)) eA eM hl), (DTa_c (fun F hF => eI F (by first | omega | exact not_false)) (fun F hF => eP F (by first | omega | exact not_false)) (fun f hf => eS f (by first | omega | exact not_false)) hta), (DTb_c (eI 1102 (by first | omega | exact not_false)) (eP 1101 (by first | omega | exact not_false)) (eN 20 (by first | omega | exact not_false)) (eR 20 (by first | omega | exact not_false)) htb), ?_, (FRb_c (eS 2 (by first | omega | exact not_false)) (eS 12 (by first | omega | exact not_false)) fb), (FRc_c (eS 20 (by first | omega | exact not_false)) fc), (FRd_c (fun f hf => eS f (by first | omega | exact not_false)) fd), (FRe_c (eS 13 (by first | omega | exact not_false)) fe), (FRf_c (eS 39 (by first | omega | exact not_false)) ff), (FRg_c (eS 45 (by first | omega | exact not_false)) fg), (FRh_c (eS 7 (by first | omega | exact not_false)) (eS 40 (by first | omega | exact not_false)) fh), (FRi_c (eS 46 (by first | omega | exact not_false)) fi)⟩
  · intro j hj
    obtain ⟨d0, d1, d2, d3, d4, d5, d6, d7, d8, d9, d10, d11⟩ := h5 j hj
    have el : z_len σ' j = z_len σ j := by unfold z_len; rw [eS 2 (by omega)]
    unfold D5
    rw [el, h0 j hj, h1' j hj, eS 3 (by omega), eS 4 (by omega), eS 5 (by omega), eS 6 (by omega), eS 8 (by omega), eS 9 (by omega), eI 500 (by omega), eI 501 (by omega), eI 502 (by omega), eI 505 (by omega), eI 506 (by omega), eI 507 (by omega), eP 503 not_false, eP 504 not_false, eN 15 not_false, eR 15 not_false]
    exact ⟨d0, d1, d2, d3, d4, d5, d6, d7, rfl, rfl, d10, d11⟩
  · intro j hj hj6
    rw [hf j hj, eS 6 (by omega), eS 7 (by omega), eS 8 (by omega)]
    exact fa j hj hj6
theorem k_move2 (G0 : GI T σ μ n pl B E) (K : TK T σ n) {σ1 : SG} (es1 : ∀ f, ¬ f = 11 → σ1 f = σ f) : ∀ (d i : Nat) (S : PT) (T' : CT) (post : PT → Prop), i + d = 6 → S5 (fun F => F = 510 ∨ F = 511) T T' → RC ad (VC n (z_len σ)) S T' →
    (∀ j, j < n 5 → tI T' 510 j = iT (j < i) 0 (σ1 11 j) ∧ tI T' 511 j = z_w2 σ1 (n 8) (min i (n 5)) 10 j) →
    (∀ S' T'', RC ad (VC n (z_len σ)) S' T'' → S5 (fun F => F = 510 ∨ F = 511) T T'' → (∀ j, j < n 5 → tI T'' 510 j = 0 ∧ tI T'' 511 j = z_w2 σ1 (n 8) (n 5) 10 j) → post S') → w_X8_moveQueues_l34 (ad 9 0) post (d + 1) S (nI i) := by
  have n56 : n 5 ≤ 6 := G0.1.1.2.1
  obtain ⟨-, -, -, -, p900, -, -, -, -, -, n17, -, -, -, r17, -⟩ := G0.1.2.1
  intro d
  induction d with
  | zero =>
    intro i S T' post hi L R J h
    have e1 : i = 6 := by omega
    subst e1
    unfold w_X8_moveQueues_l34
    have o9 := RC_o9 R (VC_9 (n := n) (len := z_len σ))
    have o17 := RC_a17 R (VC_17 (n := n) (len := z_len σ))
    refine ⟨o9.1, ad 17 0, by rw [o9.2.1, L.2.1, p900]; rfl, o17.1, ?_⟩
    rw [o17.2.1, L.2.2.1, n17]
    refine ⟨fun _ => h S T' R L (fun j hj => ?_), fun hc => absurd (by decide) hc⟩
    have := J j hj
    rw [iT_T (show j < 6 by omega), Nat.min_eq_right n56] at this
    exact this
  | succ d ih =>
    intro i S T' post hi L R J h
    unfold w_X8_moveQueues_l34 w_X8_moveQueues_b58
    have o9 := RC_o9 R (VC_9 (n := n) (len := z_len σ))
    have o17 := RC_a17 R (VC_17 (n := n) (len := z_len σ))
    have c : ¬ nI 6 ≤ nI i := by rw [qn_le (by omega) (by omega)]; omega
    refine ⟨o9.1, ad 17 0, by rw [o9.2.1, L.2.1, p900]; rfl, o17.1, ?_⟩
    rw [o17.2.1, L.2.2.1, n17, o17.2.2, qn_nat (show i < 2147483648 by omega), L.2.2.2.1, r17]
    refine ⟨fun hc => absurd hc c, fun _ => ⟨vin_nI (by omega) (by decide), ?_⟩⟩
    by_cases hin : i < n 5
    · rw [iT_T hin]
      rw [Nat.min_eq_left (show i ≤ n 5 by omega)] at J
      have ihn := ih (i + 1)
      rw [Nat.min_eq_left (show i + 1 ≤ n 5 by omega)] at ihn
      have o5 := RC_o5 R (VC_5 (n := n) (len := z_len σ) hin)
      obtain ⟨d0, d1, d2, d3, d4, d5, d6, d7, d8, d9, d10, d11⟩ := G0.1.2.2.1 i hin
      refine ⟨fun e => (by cases e), fun a6 e6 => ⟨?_, ?_⟩⟩
      · cases e6; exact o5.1
      cases e6
      have J0 := J i hin
      rw [iT_F (show ¬ i < i by omega)] at J0
      have g509 : gI S 509 (ad 5 i) = tI T 509 i := by rw [o5.2.2.2.2.2.2.2.2.2.2.1, L.1 509 (by omega)]
      have g501 : gI S 501 (ad 5 i) = σ 3 i := by rw [o5.2.2.1, L.1 501 (by omega), d1]
      have e10 : z_w2 σ1 (n 8) (i + 1) 10 i = iT (0 ≤ z_w2 σ1 (n 8) i 10 i + σ1 11 i - iT (z_taken σ (nI i) (n 8)) ((100 + 40 * (3 - σ 3 i)) / 2) (100 + 40 * (3 - σ 3 i))) (z_w2 σ1 (n 8) i 10 i + σ1 11 i - iT (z_taken σ (nI i) (n 8)) ((100 + 40 * (3 - σ 3 i)) / 2) (100 + 40 * (3 - σ 3 i))) 0 := by
        have ew : ∀ f, ¬ f = 10 → ¬ f = 11 → z_w2 σ1 (n 8) i f = σ f := fun f a b => by
          funext j; rw [z_w2_f _ _ _ a, es1 f b]
        have e11 : z_w2 σ1 (n 8) i 11 i = σ1 11 i := z_w2_f _ _ _ (by decide) _
        rw [z_w2, up2_s, z_thr, taken_c (σ := σ) (fun f hf => ew f (by omega) (by omega)), ew 3 (by decide) (by decide), e11]
      have eo : ∀ j, j ≠ i → z_w2 σ1 (n 8) (i + 1) 10 j = z_w2 σ1 (n 8) i 10 j := fun j hj => by rw [z_w2, up2_i _ _ hj]
      have b24 : ∀ v, v = iT (z_taken σ (nI i) (n 8)) ((100 + 40 * (3 - σ 3 i)) / 2) (100 + 40 * (3 - σ 3 i)) → w_X4_letThrough_b24 (ad 5 i) (fun S9 => w_X8_moveQueues_l34 (ad 9 0) post (d + 1) S9 (nI i + 1)) S v := by
        intro v hv
        unfold w_X4_letThrough_b24
        refine ⟨o5.1, ?_⟩
        rw [o5.2.2.2.2.2.2.2.2.2.2.2.2, o5.2.2.2.2.2.2.2.2.2.2.2.1, J0.1, J0.2]
        refine RC_uI R (VC_5 hin) 11 rfl (by decide) (by decide) (fun S1 R1 => RC_uI R1 (VC_5 hin) 10 rfl (by decide) (by decide) (fun S2 R2 => ?_))
        rw [qn_s]
        refine ihn S2 _ post (by omega) (S5_t L (S5_t (S5_u (Or.inr rfl)) (S5_u (Or.inl rfl)))) R2 (fun j hj => ?_) h
        by_cases e : j = i
        · rw [e, tI_s, tI_o (by decide), tI_s, iT_T (by omega), e10, ← hv, if_lt32]
          refine ⟨rfl, ?_⟩
          by_cases hlt : z_w2 σ1 (n 8) i 10 i + σ1 11 i - v < 0
          · rw [iT_T hlt, iT_F (by rw [not_le32]; exact hlt)]
          · rw [iT_F hlt, iT_T (by rw [← not_lt32]; exact hlt)]
        · rw [tI_i e, tI_i e, tI_i e, tI_i e, eo j e, (J j hj).1, (J j hj).2]
          refine ⟨?_, rfl⟩
          by_cases h2 : j < i
          · rw [iT_T h2, iT_T (by omega)]
          · rw [iT_F h2, iT_F (by omega)]
      unfold w_X4_letThrough
      rw [g509, g501]
      refine ⟨o5.1, fun h0 => b24 _ (by rw [iT_F ((TK_taken K hin).mp h0)]), fun h0 => b24 _ (by rw [iT_T (Classical.not_not.mp (fun z => h0 ((TK_taken K hin).mpr z)))])⟩
    · rw [iT_F hin]
      refine ⟨fun _ => ?_, fun a e => (by cases e)⟩
      rw [qn_s]
      refine ih (i + 1) S T' post (by omega) L R (fun j hj => ?_) h
      have := J j hj
      rw [iT_T (show j < i by omega), Nat.min_eq_right (show n 5 ≤ i by omega)] at this
      rw [iT_T (show j < i + 1 by omega), Nat.min_eq_right (show n 5 ≤ i + 1 by omega)]
      exact this
theorem k_move1 (G0 : GI T σ μ n pl B E) (K : TK T σ n) {σ0 : SG} (es0 : ∀ f, ¬ f = 11 → σ0 f = σ f) : ∀ (d i : Nat) (S : PT) (T' : CT) (post : PT → Prop), i + d = 6 → S5 (fun F => F = 510 ∨ F = 511) T T' → RC ad (VC n (z_len σ)) S T' →
    (∀ j, j < n 5 → tI T' 510 j = z_w1 σ0 (n 8) (min i (n 5)) 11 j ∧ tI T' 511 j = σ 10 j) →
    (∀ S' T'', RC ad (VC n (z_len σ)) S' T'' → S5 (fun F => F = 510 ∨ F = 511) T T'' → (∀ j, j < n 5 → tI T'' 510 j = z_w1 σ0 (n 8) (n 5) 11 j ∧ tI T'' 511 j = σ 10 j) → ∃ m, w_X8_moveQueues_l34 (ad 9 0) post m S' 0) → w_X8_moveQueues_l2 (ad 9 0) post (d + 1) S (nI i) := by
  have n56 : n 5 ≤ 6 := G0.1.1.2.1
  have Hb := G0.1.2.2.2.2.2.2.2
  obtain ⟨-, -, -, -, p900, -, -, -, -, -, n17, -, -, -, r17, -⟩ := G0.1.2.1
  intro d
  induction d with
  | zero =>
    intro i S T' post hi L R J h
    have e1 : i = 6 := by omega
    subst e1
    unfold w_X8_moveQueues_l2
    have o9 := RC_o9 R (VC_9 (n := n) (len := z_len σ))
    have o17 := RC_a17 R (VC_17 (n := n) (len := z_len σ))
    refine ⟨o9.1, ad 17 0, by rw [o9.2.1, L.2.1, p900]; rfl, o17.1, ?_⟩
    rw [o17.2.1, L.2.2.1, n17]
    refine ⟨fun _ => h S T' R L (fun j hj => ?_), fun hc => absurd (by decide) hc⟩
    have := J j hj
    rw [Nat.min_eq_right n56] at this
    exact this
  | succ d ih =>
    intro i S T' post hi L R J h
    unfold w_X8_moveQueues_l2 w_X8_moveQueues_b26
    have o9 := RC_o9 R (VC_9 (n := n) (len := z_len σ))
    have o17 := RC_a17 R (VC_17 (n := n) (len := z_len σ))
    have c : ¬ nI 6 ≤ nI i := by rw [qn_le (by omega) (by omega)]; omega
    refine ⟨o9.1, ad 17 0, by rw [o9.2.1, L.2.1, p900]; rfl, o17.1, ?_⟩
    rw [o17.2.1, L.2.2.1, n17, o17.2.2, qn_nat (show i < 2147483648 by omega), L.2.2.2.1, r17]
    refine ⟨fun hc => absurd hc c, fun _ => ⟨vin_nI (by omega) (by decide), ?_⟩⟩
    by_cases hin : i < n 5
    · rw [iT_T hin]
      rw [Nat.min_eq_left (show i ≤ n 5 by omega)] at J
      have ihn := ih (i + 1)
      rw [Nat.min_eq_left (show i + 1 ≤ n 5 by omega)] at ihn
      have o5 := RC_o5 R (VC_5 (n := n) (len := z_len σ) hin)
      obtain ⟨d0, d1, d2, d3, d4, d5, d6, d7, d8, d9, d10, d11⟩ := G0.1.2.2.1 i hin
      refine ⟨fun e => (by cases e), fun a6 e6 => ⟨?_, ?_⟩⟩
      · cases e6; exact o5.1
      cases e6
      have ew : ∀ f, ¬ f = 11 → z_w1 σ0 (n 8) i f = σ f := fun f a => by funext j; rw [z_w1_f _ _ _ a, es0 f a]
      have e1b : z_w1 σ0 (n 8) (i + 1) = z_w1b (z_w1 σ0 (n 8) i) i (iT (z_taken σ (nI i) (n 8) ∧ ¬ σ 5 i = -1) (σ 4 i / 2) 0) := by
        rw [z_w1, z_half, taken_c (σ := σ) (fun f hf => ew f (by omega)), ew 5 (by decide), ew 4 (by decide)]
      have g509 : gI S 509 (ad 5 i) = tI T 509 i := by rw [o5.2.2.2.2.2.2.2.2.2.2.1, L.1 509 (by omega)]
      have g502 : gI S 502 (ad 5 i) = σ 4 i := by rw [o5.2.2.2.1, L.1 502 (by omega), d2]
      have g503 : gP S 503 (ad 5 i) = (iT (σ 5 i = -1) none (some (σ 5 i).toNatClampNeg)).map (ad 5) := by rw [o5.2.2.2.2.1, L.2.1, d3]
      have fb : 0 ≤ (σ 4 i / 2).toInt := by
        have b := (Hb 4 i).1
        simp only [bl] at b
        simp at b
        rw [tdiv b (by decide), show (2 : Int32).toInt = 2 from by decide]; omega
      -- nothing goes round
      have none' : iT (z_taken σ (nI i) (n 8) ∧ ¬ σ 5 i = -1) (σ 4 i / 2) 0 = 0 → w_X4_sendFlow_b36 (ad 5 i) (fun S9 => w_X8_moveQueues_l2 (ad 9 0) post (d + 1) S9 (nI i + 1)) S 0 := by
        intro h0
        unfold w_X4_sendFlow_b36
        rw [g502, o5.2.2.2.2.2.2.2.2.2.2.2.1, (J i hin).1]
        refine ⟨o5.1, RC_uI R (VC_5 hin) 10 rfl (by decide) (by decide) (fun S2 R2 => ?_)⟩
        rw [qn_s]
        refine ihn S2 _ post (by omega) (S5_t L (S5_u (Or.inl rfl))) R2 (fun j hj => ?_) h
        rw [e1b, h0]
        unfold z_w1b
        rw [iT_T (show (0 : Int32) ≤ 0 by decide)]
        unfold z_w1a
        rw [tI_o (show 511 ≠ 100 * 5 + 10 by decide), ew 4 (by decide)]
        refine ⟨?_, (J j hj).2⟩
        by_cases e : j = i
        · rw [e, tI_s, up2_s]
        · rw [tI_i e, up2_i _ _ e]; exact (J j hj).1
      unfold w_X4_sendFlow
      rw [g509, g503]
      refine ⟨o5.1, fun h0 => none' (by rw [iT_F (fun z => (TK_taken K hin).mp h0 z.1)]), fun h0 => ?_⟩
      have ht : z_taken σ (nI i) (n 8) := Classical.not_not.mp (fun z => h0 ((TK_taken K hin).mpr z))
      by_cases h5 : σ 5 i = -1
      · rw [iT_T h5]
        exact ⟨fun _ => none' (by rw [iT_F (fun z => z.2 h5)]), fun a e => (by cases e)⟩
      · rw [iT_F h5]
        refine ⟨fun e => (by cases e), fun a e => ?_⟩
        cases e
        have va := (G0.1.2.2.2.2.2.2.1.1 i hin).2.resolve_left h5
        have han : (σ 5 i).toNatClampNeg < n 5 := by omega
        have hai : (σ 5 i).toNatClampNeg ≠ i := by omega
        have hc1 : iT (z_taken σ (nI i) (n 8) ∧ ¬ σ 5 i = -1) (σ 4 i / 2) 0 = σ 4 i / 2 := iT_T ⟨ht, h5⟩
        rw [hc1] at e1b
        have o5a := RC_o5 R (VC_5 (n := n) (len := z_len σ) han)
        rw [g502, o5a.2.2.2.2.2.2.2.2.2.2.2.1, (J _ han).1]
        refine ⟨o5a.1, RC_uI R (VC_5 han) 10 rfl (by decide) (by decide) (fun S1 R1 => ?_)⟩
        have o51 := RC_o5 R1 (VC_5 (n := n) (len := z_len σ) hin)
        have g5021 : gI S1 502 (ad 5 i) = σ 4 i := by rw [o51.2.2.2.1, tI_o (by decide), L.1 502 (by omega), d2]
        unfold w_X4_sendFlow_b36
        rw [g5021, o51.2.2.2.2.2.2.2.2.2.2.2.1, tI_i (fun e => hai e.symm), (J i hin).1]
        refine ⟨o51.1, RC_uI R1 (VC_5 hin) 10 rfl (by decide) (by decide) (fun S2 R2 => ?_)⟩
        rw [qn_s]
        refine ihn S2 _ post (by omega) (S5_t L (S5_t (S5_u (Or.inl rfl)) (S5_u (Or.inl rfl)))) R2 (fun j hj => ?_) h
        rw [tI_o (show 511 ≠ 100 * 5 + 10 by decide), tI_o (show 511 ≠ 100 * 5 + 10 by decide)]
        refine ⟨?_, (J j hj).2⟩
        rw [e1b]
        unfold z_w1b z_w1a
        rw [ew 4 (by decide), ew 5 (by decide)]
        by_cases hle : σ 4 i / 2 ≤ 0
        · have hz : σ 4 i / 2 = 0 := by rw [ile, I0] at hle; rw [ieq, I0]; omega
          rw [iT_T hle, hz]
          by_cases e : j = i
          · rw [e, tI_s, up2_s]
          · rw [tI_i e, up2_i _ _ e]
            by_cases ea : j = (σ 5 i).toNatClampNeg
            · rw [ea, tI_s, Int32.add_zero]
            · rw [tI_i ea]; exact (J j hj).1
        · rw [iT_F hle]
          by_cases e : j = i
          · rw [e, tI_s, up2_i _ _ (fun z => hai z.symm), up2_s]
          · rw [tI_i e]
            by_cases ea : j = (σ 5 i).toNatClampNeg
            · rw [ea, tI_s, up2_s, up2_i _ _ hai]
            · rw [tI_i ea, up2_i _ _ ea, up2_i _ _ e]; exact (J j hj).1
    · rw [iT_F hin]
      refine ⟨fun _ => ?_, fun a e => (by cases e)⟩
      rw [qn_s]
      refine ih (i + 1) S T' post (by omega) L R (fun j hj => ?_) h
      have := J j hj
      rw [Nat.min_eq_right (show n 5 ≤ i by omega)] at this
      rw [Nat.min_eq_right (show n 5 ≤ i + 1 by omega)]
      exact this
theorem k_moveQueues (G0 : GI T σ μ n pl B E) (K : TK T σ n) (R : RC ad (VC n (z_len σ)) S T) {post : PT → Prop} (h : ∀ S' T', RC ad (VC n (z_len σ)) S' T' → S5 (fun F => F = 510 ∨ F = 511) T T' → GI T' (z_waits σ (n 5) (n 8)) μ n pl B E → post S') : w_X8_moveQueues (ad 9 0) S post := by
  have e0 : ∀ f, ¬ f = 11 → z_w0 σ (n 5) f = σ f := fun f a => by funext j; exact z_w0_f _ _ a _
  have e1 : ∀ f, ¬ f = 11 → z_w1 (z_w0 σ (n 5)) (n 8) (n 5) f = σ f := fun f a => by funext j; rw [z_w1_f _ _ _ a, e0 f a]
  unfold w_X8_moveQueues
  refine ⟨7, ?_⟩
  refine k_move1 (ad := ad) G0 K e0 6 0 S T post rfl (S5_r _ _) R (fun j hj => ?_) (fun S1 T1 R1 L1 J1 => ⟨7, ?_⟩)
  · rw [Nat.zero_min]
    obtain ⟨d0, d1, d2, d3, d4, d5, d6, d7, d8, d9, d10, d11⟩ := G0.1.2.2.1 j hj
    exact ⟨by rw [d8]; exact (z_w0_11 σ (n 5) j hj).symm, d9⟩
  · refine k_move2 (ad := ad) G0 K e1 6 0 S1 T1 post rfl L1 R1 (fun j hj => ?_) (fun S2 T2 R2 L2 J2 => h S2 T2 R2 L2 ?_)
    · rw [Nat.zero_min, iT_F (Nat.not_lt_zero _)]
      exact ⟨(J1 j hj).1, by rw [(J1 j hj).2]; show _ = z_w1 (z_w0 σ (n 5)) (n 8) (n 5) 10 j; rw [e1 10 (by decide)]⟩
    · refine gp_q G0 L2 (fun f hf => ?_) ?_ (fun j hj => (J2 j hj).1) (fun j hj => (J2 j hj).2) (fun j hj => ?_)
      · funext j
        unfold z_waits
        rw [z_w2_f _ _ _ (by omega), e1 f (by omega)]
      · exact z_w2_B (z_w1_B (z_w0_B G0.1.2.2.2.2.2.2.2 (n 5)) (n 8) (n 5)) (n 8) (n 5)
      · unfold z_waits
        rw [z_w2_10 _ _ _ _ hj, e1 10 (by decide)]
end C
