/-! embargo -/
section C
variable {ad : Nat → Nat → Nat} {S : PT} {T : CT} {σ : SG} {n : Nat → Nat} {μ : MU} {pl : Nat → Nat} {B E : Nat}
theorem gp_embargo (H : GI T σ μ n pl B E) {s : Nat} (hs0 : s < n 5) {a b : Int32} (ha : 0 ≤ a ∧ a ≤ 999) (hb0 : a ≤ b ∧ b ≤ 999) {σ' : SG} (es : σ' = up2 (up2 (up2 σ 49 0 0) 8 s a) 9 s b) : GI (uI (uI T 505 s a) 506 s b) σ' μ n pl B E := by
  obtain ⟨⟨h1, h9, h5, h8, h7, h3, hv, hb⟩, ⟨hd, hs⟩, hr, h4, hl, hta, htb, fa, fb, fc, fd, fe, ff, fg, fh, fi⟩ := H
  have eS : ∀ f, ¬ (f = 8 ∨ f = 9 ∨ f = 49) → σ' f = σ f := fun f h => by rw [es, sg_o (by omega), sg_o (by omega), sg_o (by omega)]
  have eI : ∀ F, ¬ (F = 505 ∨ F = 506) → tI (uI (uI T 505 s a) 506 s b) F = tI T F := fun F h => by show up2 (up2 (tI T) 505 s _) 506 s _ F = _; rw [sg_o (by omega), sg_o (by omega)]
  have eP : ∀ F9, ¬ False → tP (uI (uI T 505 s a) 506 s b) F9 = tP T F9 := fun _ _ => rfl
  have eN : ∀ F9, ¬ False → tN (uI (uI T 505 s a) 506 s b) F9 = tN T F9 := fun _ _ => rfl
  have eR : ∀ F9, ¬ False → tR (uI (uI T 505 s a) 506 s b) F9 = tR T F9 := fun _ _ => rfl
  have eA : tA (uI (uI T 505 s a) 506 s b) = tA T := rfl
  have eJ : tJ (uI (uI T 505 s a) 506 s b) = tJ T := rfl
  have eM : μ = μ := rfl
  have ei : ∀ f l, l ≠ s → f ≠ 49 → σ' f l = σ f l := fun f l h h49 => by rw [es, up2_i _ _ h, up2_i _ _ h, up2_f _ _ _ _ h49]
  have a1 := ha.1; have a2 := ha.2; have b1 := hb0.1; have b2 := hb0.2
  rw [ile, I0] at a1
  rw [ile, show (999 : Int32).toInt = 999 from by decide] at a2 b2
  rw [ile] at b1
  refine ⟨⟨(DN_c (by rw [eS 1 (by first | omega | exact not_false)]) (by rw [eS 14 (by first | omega | exact not_false)]) (by rw [eS 23 (by first | omega | exact not_false)]) (by rw [eS 40 (by first | omega | exact not_false)]) h1), (D9_d (fun F hF => eI F (by first | omega | exact not_false)) (fun F hF => eP F (by first | omega | exact not_false)) (fun k hk => eN k (by first | omega | exact not_false)) (fun k hk hk2 => eR k (by first | omega | exact not_false)) (by rw [eS 0 (by first | omega | exact not_false)]) h9), ?_, (fun k hk => ⟨D8_c (fun F hF => by rw [eI F (by first | omega | exact not_false)]) (fun F hF => by rw [eP F (by first | omega | exact not_false)]) (fun f a b => by rw [eS f (by first | omega | exact not_false)]) (by unfold z_opens; rw [eS 13 (by first | omega | exact not_false)]) (h8 k hk).1, D8a_c (by rw [eI 814 (by first | omega | exact not_false)]) (eS 39 (by first | omega | exact not_false)) (h8 k hk).2⟩), (fun t ht => D7_c (fun F hF => by rw [eI F (by first | omega | exact not_false)]) (fun F hF => by rw [eP F (by first | omega | exact not_false)]) (fun f a b => by rw [eS f (by first | omega | exact not_false)]) (eS 2 (by first | omega | exact not_false)) (h7 t ht)), (fun j i hj hi => D3_c (fun F hF => by rw [eI F (by first | omega | exact not_false)]) (by rw [eP 303 (by first | omega | exact not_false)]) (by rw [eS 12 (by first | omega | exact not_false)]) (by rw [eS 13 (by first | omega | exact not_false)]) (eS 41 (by first | omega | exact not_false)) (h3 j i hj (by rw [show z_len _ = z_len σ from z_len_c (fun j => by rw [eS 2 (by first | omega | exact not_false)])] at hi; exact hi))), (DV_c (fun f hf => eS f (by first | omega | exact not_false)) hv), ?_⟩, ⟨(fun k hk => D1_c (fun F hF => by rw [eI F (by first | omega | exact not_false)]) (fun F hF => by rw [eP F (by first | omega | exact not_false)]) (fun f a b => eS f (by first | omega | exact not_false)) (hd k hk)), (DS_c (eI 508 (by first | omega | exact not_false)) (eS 7 (by first | omega | exact not_false)) hs)⟩, (DR_c (fun f hf => eS f (by first | omega | exact not_false)) hr), (fun p hp => D4_c (by rw [eJ]) (fun F hF => by rw [eI F (by first | omega | exact not_false)]) (by rw [eM]) (eS 24 (by first | omega | exact not_false)) (eS 42 (by first | omega | exact not_false)) (by rw [eS 46 (by first | omega | exact not_false)]) (by rw [eS 47 (by first | omega | exact not_false)]) (h4 p hp)), (DL_c (eI 201 (by first | omega | exact not_false)) (eP 200 (by first | omega | exact not_false)) (eN 12 (by first | omega | exact not_false)) eA eM hl), (DTa_c (fun F hF => eI F (by first | omega | exact not_false)) (fun F hF => eP F (by first | omega | exact not_false)) (fun f hf => eS f (by first | omega | exact not_false)) hta), (DTb_c (eI 1102 (by first | omega | exact not_false)) (eP 1101 (by first | omega | exact not_false)) (eN 20 (by first | omega | exact not_false)) (eR 20 (by first | omega | exact not_false)) htb), ?_, (FRb_c (eS 2 (by first | omega | exact not_false)) (eS 12 (by first | omega | exact not_false)) fb), (FRc_c (eS 20 (by first | omega | exact not_false)) fc), (FRd_c (fun f hf => eS f (by first | omega | exact not_false)) fd), (FRe_c (eS 13 (by first | omega | exact not_false)) fe), (FRf_c (eS 39 (by first | omega | exact not_false)) ff), (FRg_c (eS 45 (by first | omega | exact not_false)) fg), (FRh_c (eS 7 (by first | omega | exact not_false)) (eS 40 (by first | omega | exact not_false)) fh), (FRi_c (eS 46 (by first | omega | exact not_false)) fi)⟩
  · intro j hj
    by_cases e : j = s
    · subst e
      obtain ⟨d0, d1, d2, d3, d4, d5, d6, d7, d8, d9, d10, d11⟩ := h5 j hj
      have e8 : σ' 8 j = a := by rw [es, up2_f _ _ _ _ (by decide), up2_s]
      have e9 : σ' 9 j = b := by rw [es, up2_s]
      have el : z_len σ' j = z_len σ j := by unfold z_len; rw [eS 2 (by omega)]
      unfold D5
      rw [e8, e9, el, eS 3 (by omega), eS 4 (by omega), eS 5 (by omega), eS 6 (by omega), eS 10 (by omega), eI 500 (by omega), eI 501 (by omega), eI 502 (by omega), eI 507 (by omega), eI 510 (by omega), eI 511 (by omega)]
      exact ⟨d0, d1, d2, d3, d4, by rw [tI_o (by decide), tI_s], fun _ => tI_s, d7, d8, d9, d10, d11⟩
    · exact D5_c (T := T) (fun F hF _ _ => by rw [tI_i e, tI_i e]) (fun _ _ => rfl) rfl rfl (fun f p q _ => ei f j e (by omega)) (h5 j hj)
  · rw [es]
    refine IB_up (IB_up (IB_49 hb 0) 8 s ?_ ?_) 9 s ?_ ?_
    · show (-1 : Int) ≤ _
      omega
    · show _ ≤ (999 : Int)
      omega
    · show (0 : Int) ≤ _
      omega
    · show _ ≤ (999 : Int)
      omega
  · intro j hj h6
    have e : j ≠ s := by omega
    rw [ei 8 j e (by decide), eS 6 (by omega), eS 7 (by omega), eS 10 (by omega)]
    exact fa j hj h6
theorem k_street_w (R : RC ad (VC n (z_len σ)) S T) (H : DQ T σ n) {k s : Nat} (hk : k < n 8) (hs : s < n 5) : (some (ad 5 (σ 25 k).toNatClampNeg) = some (ad 5 s)) = (σ 25 k = nI s) := by
  obtain ⟨a, ea, ha, ha2⟩ := IB_nI H.2.2.2.2.2.2.2 25 k rfl
  have h6 : n 5 ≤ 6 := H.1.2.1
  rw [RC_eq R (VC_5 (H.2.2.2.2.2.2.1.2.2.1 k hk).1) (VC_5 hs), ea, qn_nat ha2, qn_eq ha2 (by omega)]
theorem k_embargo (R : RC ad (VC n (z_len σ)) S T) (H : GI T σ μ n pl B E) (x a b : Int32) {mc ms : Nat} (h1 : 1 ≤ mc) (h6 : 6 ≤ ms) {post : Int32 → PT → Prop} {postX : String → PT → Prop}
    (hx1 : q_embargo σ x a b = 1 → postX "java/lang/IndexOutOfBoundsException" S) (hx2 : q_embargo σ x a b = 2 → postX "java/lang/IllegalArgumentException" S)
    (h : q_embargo σ x a b = 0 → ∀ S' T', RC ad (VC n (z_len σ)) S' T' → SM T T' → GI T' (u_embargo σ x a b) μ n pl B E → post (nI (cN (z_caught (u_embargo σ x a b) x a b) (n 8))) S') : w_X8_embargo (ad 9 0) x a b S mc ms post postX := by
  unfold w_X8_embargo
  unfold q_embargo at hx1 hx2 h
  refine ⟨(RC_o9 R VC_9).1, ?_⟩
  rw [k_streetAt R H.1]
  by_cases hv : 0 ≤ x ∧ x ≤ σ 1 0 - 1
  · rw [iT_T hv]
    obtain ⟨s, hs, rfl, hs2⟩ := st_n H.1 hv
    rw [iT_F (show ¬ ¬ _ from fun z => z hv)] at h hx2
    rw [qn_nat hs2]
    refine ⟨fun e => (by cases e), fun a9 e => ?_⟩
    cases e
    have b45 : ¬ ((0 ≤ a ∧ a ≤ 999) ∧ a ≤ b ∧ b ≤ 999) → w_X8_embargo_b45 (ad 9 0) (nI s) a b mc ms post postX 0 0 S := fun hn => ⟨by omega, by omega, by omega, by omega, hx2 (iT_T hn)⟩
    refine ⟨fun c1 => b45 (fun z => by have := z.1.1; rw [← not_lt32] at this; exact this c1), fun c1 => ⟨fun c2 => b45 (fun z => by have := z.1.2; rw [← not_lt32] at this; exact this c2), fun c2 => ⟨fun c3 => b45 (fun z => by have := z.2.1; rw [← not_lt32] at this; exact this c3), fun c3 => ⟨fun c4 => ?_, fun c4 => b45 (fun z => c4 z.2.2)⟩⟩⟩⟩
    rw [not_lt32] at c1 c2 c3
    have h9 := h (iT_F (fun z => z ⟨⟨c1, c2⟩, c3, c4⟩))
    refine ⟨(RC_o5 R (VC_5 hs)).1, ?_⟩
    refine RC_uI R (VC_5 hs) 5 rfl (by decide) (by decide) (fun S1 R1 => ?_)
    refine RC_uI R1 (VC_5 hs) 6 rfl (by decide) (by decide) (fun S2 R2 => ?_)
    have eu : u_embargo σ (nI s) a b = up2 (up2 (up2 σ 49 0 0) 8 s a) 9 s b := by unfold u_embargo; rw [qn_nat hs2]
    have G := gp_embargo H hs ⟨c1, c2⟩ ⟨c3, c4⟩ eu
    have hl : z_len (u_embargo σ (nI s) a b) = z_len σ := z_len_c (fun i => by rw [eu, up2_f _ _ _ _ (by decide), up2_f _ _ _ _ (by decide), up2_f _ _ _ _ (by decide)])
    have R3 := R2
    rw [← hl] at R3
    have e8 : u_embargo σ (nI s) a b 8 s = a := by rw [eu, up2_f _ _ _ _ (by decide), up2_s]
    have e9 : u_embargo σ (nI s) a b 9 s = b := by rw [eu, up2_s]
    have ha1 : ¬ a = -1 := fun e => by rw [e] at c1; exact absurd c1 (by decide)
    have h24 : n 8 ≤ 24 := H.1.1.2.2.2.2.2.1
    have h99 := h9 S2 _ R2 ⟨rfl, rfl, rfl⟩ G
    generalize hg : u_embargo σ (nI s) a b = τ at *
    obtain ⟨-, -, -, -, -, -, d0, -, -, -, -, -, d1, -, -, -, d2, -⟩ := G.1.2.1
    rw [show (∃ m, w_X8_embargo_l73 (ad 9 0) (nI s) a b mc ms post postX m 0 0 S2 (some (ad 5 s)) 0 0) = (post (nI (cN (z_caught τ (nI s) a b) (n 8))) S2) from ?_]
    · exact h99
    · refine loop_ex (N := 24) (i0 := 0) (fun i9 => nI (cN (z_caught τ (nI s) a b) (min i9 (n 8)))) (fun m c v => w_X8_embargo_l73 (ad 9 0) (nI s) a b mc ms post postX m 0 0 S2 (some (ad 5 s)) c v) _ (Nat.zero_le _) (by rw [Nat.zero_min]; rfl) rfl (fun _ _ => rfl) (fun m => ?_) (fun m k _ hk => ?_)
      · show w_X8_embargo_l73 (ad 9 0) (nI s) a b mc ms post postX (m + 1) 0 0 S2 _ _ _ = _
        unfold w_X8_embargo_l73
        have c : nI 24 ≤ nI 24 := by decide
        simp only [RC_o9 R3 VC_9, RC_a19 R3 VC_19, d0, d1, c, Option.map_some, Option.some.injEq, exists_eq_left', true_and, true_implies, not_true, false_implies, and_true, Nat.min_eq_right h24, Nat.zero_le]
      · show w_X8_embargo_l73 (ad 9 0) (nI s) a b mc ms post postX (m + 1) 0 0 S2 _ _ _ = w_X8_embargo_l73 (ad 9 0) (nI s) a b mc ms post postX m 0 0 S2 _ _ _
        conv => lhs; unfold w_X8_embargo_l73
        unfold w_X8_embargo_b137
        have c : ¬ nI 24 ≤ nI k := by rw [qn_le (by omega) (by omega)]; omega
        have c1 : vp_in (nI k) 24 := vin_nI (by omega) (by decide)
        have c2 : (nI k).toNatClampNeg = k := qn_nat (by omega)
        simp only [RC_o9 R3 VC_9, RC_a19 R3 VC_19, d0, d1, c, c1, c2, d2, Option.map_some, Option.some.injEq, exists_eq_left', true_and, true_implies, not_true, false_implies, not_false_eq_true, qn_s, Nat.zero_le]
        by_cases hin : k < n 8
        · rw [iT_T hin, Nat.min_eq_left (show k ≤ n 8 by omega), Nat.min_eq_left (show k + 1 ≤ n 8 by omega), cN_s]
          have st := k_street_w R3 G.1 hin hs
          have st2 : (ad 5 (τ 25 k).toNatClampNeg = ad 5 s) = (τ 25 k = nI s) := by rw [← st]; simp
          obtain ⟨-, -, f2, -, -, -, -, -, f8, f9, f10, -⟩ := (G.1.2.2.2.1 k hin).1
          have D5s := G.1.2.2.1 s hs
          simp only [Option.map_some, reduceCtorEq, false_implies, true_and, Option.some.injEq, forall_eq', exists_eq_left', RC_o8 R3 (VC_8 hin), RC_o5 R3 (VC_5 hs), f2, f8, f9, f10, st2, k_hasEmbargoIn R3 hs D5s, e8, e9, bI_0, Classical.not_not, br2, br2']
          have ce : z_caught τ (nI s) a b k ↔ (τ 25 k = nI s ∧ τ 33 k = 1 ∧ τ 30 k ≤ b ∧ a ≤ z_last τ k) := by
            unfold z_caught z_has z_end
            constructor
            · rintro ⟨p1, p2, p3, p4⟩
              rw [iT_F (fun z => by rw [p2] at z; exact absurd z.1 (by decide))] at p4
              exact ⟨p1, p2, p3, p4⟩
            · rintro ⟨p1, p2, p3, p4⟩
              rw [iT_F (fun z => by rw [p2] at z; exact absurd z.1 (by decide))]
              exact ⟨p1, p2, p3, p4⟩
          by_cases hp : z_caught τ (nI s) a b k
          · rw [iT_T hp]
            obtain ⟨p1, p2, p3, p4⟩ := ce.mp hp
            simp only [p1, p2, p3, p4, ha1, not_false_eq_true, not_true, and_self, iT_tt, iT_ff]
          · rw [iT_F hp]
            rw [ce] at hp
            by_cases p1 : τ 25 k = nI s
            · by_cases p2 : τ 33 k = 1
              · have p3 : ¬ (¬ a = -1 ∧ τ 30 k ≤ b ∧ a ≤ z_last τ k) := fun z => hp ⟨p1, p2, z.2⟩
                simp only [p1, p2, p3, not_false_eq_true, not_true, iT_tt, iT_ff]
              · simp only [p1, p2, not_false_eq_true, not_true, iT_tt, iT_ff]
            · simp only [p1, not_false_eq_true, iT_tt, iT_ff]
        · rw [iT_F hin, Nat.min_eq_right (show n 8 ≤ k by omega), Nat.min_eq_right (show n 8 ≤ k + 1 by omega)]
          simp only [Option.map_none, reduceCtorEq, true_implies, false_implies, implies_true, and_true]
  · rw [iT_F hv]
    exact ⟨fun _ => ⟨by omega, by omega, hx1 (iT_T hv)⟩, fun a9 e => (by cases e)⟩
end C
