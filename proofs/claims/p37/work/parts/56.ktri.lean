/-! trial, embargo -/
section C
variable {ad : Nat → Nat → Nat} {S : PT} {T : CT} {σ : SG} {n : Nat → Nat} {μ : MU} {pl : Nat → Nat} {B E : Nat}
theorem gp_trial (H : GI T σ μ n pl B E) {s i : Nat} (hs0 : s < n 5) (hi : i < z_len σ s) {v : Int32} (hv0 : v = 0 ∨ v = 1) {σ' : SG} (es : σ' = up2 (up2 σ 49 0 0) 12 (40 * s + i) v) : GI (uI T 300 (40 * s + i) v) σ' μ n pl B E := by
  obtain ⟨⟨h1, h9, h5, h8, h7, h3, hv, hb⟩, ⟨hd, hs⟩, hr, h4, hl, hta, htb, fa, fb, fc, fd, fe, ff, fg, fh, fi⟩ := H
  have hi40 := (z_len_i hb s).2
  have eS : ∀ f, ¬ (f = 12 ∨ f = 49) → σ' f = σ f := fun f h => by rw [es, sg_o (by omega), sg_o (by omega)]
  have eI : ∀ F, ¬ (F = 300) → tI (uI T 300 (40 * s + i) v) F = tI T F := fun F h => sg_o (σ := tI T) h
  have eP : ∀ F9, ¬ False → tP (uI T 300 (40 * s + i) v) F9 = tP T F9 := fun _ _ => rfl
  have eN : ∀ F9, ¬ False → tN (uI T 300 (40 * s + i) v) F9 = tN T F9 := fun _ _ => rfl
  have eR : ∀ F9, ¬ False → tR (uI T 300 (40 * s + i) v) F9 = tR T F9 := fun _ _ => rfl
  have eA : tA (uI T 300 (40 * s + i) v) = tA T := rfl
  have eJ : tJ (uI T 300 (40 * s + i) v) = tJ T := rfl
  have eM : μ = μ := rfl
  have eq : ∀ q, q ≠ 40 * s + i → σ' 12 q = σ 12 q := fun q h => by rw [es, up2_i _ _ h, up2_f _ _ _ _ (by decide)]
  refine ⟨⟨(DN_c (by rw [eS 1 (by first | omega | exact not_false)]) (by rw [eS 14 (by first | omega | exact not_false)]) (by rw [eS 23 (by first | omega | exact not_false)]) (by rw [eS 40 (by first | omega | exact not_false)]) h1), (D9_d (fun F hF => eI F (by first | omega | exact not_false)) (fun F hF => eP F (by first | omega | exact not_false)) (fun k hk => eN k (by first | omega | exact not_false)) (fun k hk hk2 => eR k (by first | omega | exact not_false)) (by rw [eS 0 (by first | omega | exact not_false)]) h9), (fun j hj => D5_c (fun F hF _ _ => by rw [eI F (by first | omega | exact not_false)]) (fun F hF => by rw [eP F (by first | omega | exact not_false)]) (by rw [eN 15 (by first | omega | exact not_false)]) (by rw [eR 15 (by first | omega | exact not_false)]) (fun f a b _ => by rw [eS f (by first | omega | exact not_false)]) (h5 j hj)), (fun k hk => ⟨D8_c (fun F hF => by rw [eI F (by first | omega | exact not_false)]) (fun F hF => by rw [eP F (by first | omega | exact not_false)]) (fun f a b => by rw [eS f (by first | omega | exact not_false)]) (by unfold z_opens; rw [eS 13 (by first | omega | exact not_false)]) (h8 k hk).1, D8a_c (by rw [eI 814 (by first | omega | exact not_false)]) (eS 39 (by first | omega | exact not_false)) (h8 k hk).2⟩), (fun t ht => D7_c (fun F hF => by rw [eI F (by first | omega | exact not_false)]) (fun F hF => by rw [eP F (by first | omega | exact not_false)]) (fun f a b => by rw [eS f (by first | omega | exact not_false)]) (eS 2 (by first | omega | exact not_false)) (h7 t ht)), ?_, (DV_c (fun f hf => eS f (by first | omega | exact not_false)) hv), ?_⟩, ⟨(fun k hk => D1_c (fun F hF => by rw [eI F (by first | omega | exact not_false)]) (fun F hF => by rw [eP F (by first | omega | exact not_false)]) (fun f a b => eS f (by first | omega | exact not_false)) (hd k hk)), (DS_c (eI 508 (by first | omega | exact not_false)) (eS 7 (by first | omega | exact not_false)) hs)⟩, (DR_c (fun f hf => eS f (by first | omega | exact not_false)) hr), (fun p hp => D4_c (by rw [eJ]) (fun F hF => by rw [eI F (by first | omega | exact not_false)]) (by rw [eM]) (eS 24 (by first | omega | exact not_false)) (eS 42 (by first | omega | exact not_false)) (by rw [eS 46 (by first | omega | exact not_false)]) (by rw [eS 47 (by first | omega | exact not_false)]) (h4 p hp)), (DL_c (eI 201 (by first | omega | exact not_false)) (eP 200 (by first | omega | exact not_false)) (eN 12 (by first | omega | exact not_false)) eA eM hl), (DTa_c (fun F hF => eI F (by first | omega | exact not_false)) (fun F hF => eP F (by first | omega | exact not_false)) (fun f hf => eS f (by first | omega | exact not_false)) hta), (DTb_c (eI 1102 (by first | omega | exact not_false)) (eP 1101 (by first | omega | exact not_false)) (eN 20 (by first | omega | exact not_false)) (eR 20 (by first | omega | exact not_false)) htb), (FRa_c (fun f hf => eS f (by first | omega | exact not_false)) fa), ?_, (FRc_c (eS 20 (by first | omega | exact not_false)) fc), (FRd_c (fun f hf => eS f (by first | omega | exact not_false)) fd), (FRe_c (eS 13 (by first | omega | exact not_false)) fe), (FRf_c (eS 39 (by first | omega | exact not_false)) ff), (FRg_c (eS 45 (by first | omega | exact not_false)) fg), (FRh_c (eS 7 (by first | omega | exact not_false)) (eS 40 (by first | omega | exact not_false)) fh), (FRi_c (eS 46 (by first | omega | exact not_false)) fi)⟩
  · intro j l hj hl2
    rw [show z_len σ' = z_len σ from z_len_c (fun j => by rw [eS 2 (by omega)])] at hl2
    have D := h3 j l hj hl2
    by_cases e : 40 * j + l = 40 * s + i
    · rw [e] at D ⊢
      obtain ⟨d0, d1, d2, d3⟩ := D
      unfold D3
      rw [eS 13 (by omega), eS 41 (by omega), eI 301 (by omega), eI 302 (by omega), tI_s]
      exact ⟨by rw [es, up2_s], d1, d2, d3⟩
    · exact D3_c (T := T) (fun F hF => by rw [tI_i e]) rfl (eq _ e) (by rw [eS 13 (by omega)]) (eS 41 (by omega)) D
  · rw [es]
    refine IB_up (IB_49 hb 0) 12 _ ?_ ?_
    · rcases hv0 with rfl | rfl <;> decide
    · rcases hv0 with rfl | rfl <;> decide
  · intro q hq h0
    rw [show z_len σ' = z_len σ from z_len_c (fun j => by rw [eS 2 (by omega)])]
    by_cases e : q = 40 * s + i
    · rw [e, show (40 * s + i) / 40 = s by omega, show (40 * s + i) % 40 = i by omega]; exact ⟨hs0, hi⟩
    · rw [eq q e] at h0; exact fb q hq h0
theorem k_trial (R : RC ad (VC n (z_len σ)) S T) (H : GI T σ μ n pl B E) (x y : Int32) {mc ms : Nat} (h1 : 1 ≤ mc) (h6 : 6 ≤ ms) {post : Int32 → PT → Prop} {postX : String → PT → Prop}
    (hx1 : q_trial σ x y = 1 → postX "java/lang/IndexOutOfBoundsException" S)
    (h : q_trial σ x y = 0 → ∀ S' T', RC ad (VC n (z_len σ)) S' T' → SM T T' → GI T' (u_trial σ x y) μ n pl B E → post (nI (cN (fun t => z_lies σ t x y) (n 7))) S') : w_X8_trial (ad 9 0) x y S mc ms post postX := by
  unfold w_X8_trial
  unfold q_trial at hx1 h
  have b30 : ¬ z_mt σ x y → w_X8_trial_b30 (ad 9 0) x y mc ms post postX 0 0 S := fun hn => ⟨by omega, by omega, by omega, by omega, hx1 (iT_T hn)⟩
  refine ⟨(RC_o9 R VC_9).1, ?_⟩
  rw [k_streetAt R H.1]
  unfold w_X8_trial_b19
  by_cases hv : 0 ≤ x ∧ x ≤ σ 1 0 - 1
  · rw [iT_T hv]
    obtain ⟨s, hs, rfl, hs2⟩ := st_n H.1 hv
    rw [qn_nat hs2]
    refine ⟨fun e => (by cases e), fun a9 e => ?_⟩
    cases e
    refine ⟨(RC_o5 R (VC_5 hs)).1, ?_⟩
    rw [k_metreAt R H.1 hs]
    refine ⟨by omega, by omega, fun e => (by cases e), fun a9 e => ?_⟩
    by_cases ha : 0 ≤ y ∧ y ≤ σ 2 s - 1
    · rw [iT_T ha]
      obtain ⟨i, hi, rfl, hi40⟩ := len_in H.1 ha
      have hm : z_mt σ (nI s) (nI i) := by unfold z_mt; rw [qn_nat hs2]; exact ⟨hv, ha⟩
      have h9 := h (iT_F (fun z => z hm))
      rw [qn_nat (show i < 2147483648 by omega)]
      refine ⟨fun e => (by cases e), fun a3 e3 => ?_⟩
      cases e3
      refine ⟨(RC_o3 R (VC_3 (len := z_len σ) hs hi hi40)).1, ?_⟩
      refine RC_uI R (VC_3 (len := z_len σ) hs hi hi40) 0 rfl (by decide) (by decide) (fun S1 R1 => ?_)
      have eu : u_trial σ (nI s) (nI i) = up2 (up2 σ 49 0 0) 12 (40 * s + i) 1 := by unfold u_trial; rw [qn_nat hs2, qn_nat (show i < 2147483648 by omega)]
      have G := gp_trial (v := 1) H hs hi (Or.inr rfl) rfl
      rw [← eu] at G
      have hl : z_len (u_trial σ (nI s) (nI i)) = z_len σ := z_len_c (fun i => by rw [eu, up2_f _ _ _ _ (by decide), up2_f _ _ _ _ (by decide)])
      have R2 := R1
      rw [← hl] at R2
      have zl : ∀ t, z_lies (u_trial σ (nI s) (nI i)) t (nI s) (nI i) = z_lies σ t (nI s) (nI i) := fun t => by unfold z_lies; rw [eu]; simp only [up2_f, ne_eq, Nat.reduceEqDiff, not_false_eq_true]
      have h30 : n 7 ≤ 30 := H.1.1.2.2.2.1
      have hl2 : ∀ P : Prop, P = True → P := fun P e => by rw [e]; trivial
      obtain ⟨-, -, -, -, -, d0, -, -, -, -, -, d1, -, -, -, d2, -⟩ := G.1.2.1
      rw [show (∃ m, w_X8_trial_l52 (ad 9 0) (nI s) (nI i) mc ms post postX m 0 0 S1 (some (ad 5 s)) 0 0) = (post (nI (cN (fun t => z_lies σ t (nI s) (nI i)) (n 7))) S1) from ?_]
      · exact h9 S1 _ R1 ⟨rfl, rfl, rfl⟩ G
      · refine loop_ex (N := 30) (i0 := 0) (fun i9 => nI (cN (fun t => z_lies σ t (nI s) (nI i)) (min i9 (n 7)))) (fun m c v => w_X8_trial_l52 (ad 9 0) (nI s) (nI i) mc ms post postX m 0 0 S1 (some (ad 5 s)) c v) _ (Nat.zero_le _) (by rw [Nat.zero_min]; rfl) rfl (fun _ _ => rfl) (fun m => ?_) (fun m k _ hk => ?_)
        · show w_X8_trial_l52 (ad 9 0) (nI s) (nI i) mc ms post postX (m + 1) 0 0 S1 _ _ _ = _
          unfold w_X8_trial_l52
          have c : nI 30 ≤ nI 30 := by decide
          simp only [RC_o9 R2 VC_9, RC_a18 R2 VC_18, d0, d1, c, Option.map_some, Option.some.injEq, exists_eq_left', true_and, true_implies, not_true, false_implies, and_true, Nat.min_eq_right h30, Nat.zero_le]
        · show w_X8_trial_l52 (ad 9 0) (nI s) (nI i) mc ms post postX (m + 1) 0 0 S1 _ _ _ = w_X8_trial_l52 (ad 9 0) (nI s) (nI i) mc ms post postX m 0 0 S1 _ _ _
          conv => lhs; unfold w_X8_trial_l52
          unfold w_X8_trial_b89
          have c : ¬ nI 30 ≤ nI k := by rw [qn_le (by omega) (by omega)]; omega
          have c1 : vp_in (nI k) 30 := vin_nI (by omega) (by decide)
          have c2 : (nI k).toNatClampNeg = k := qn_nat (by omega)
          simp only [RC_o9 R2 VC_9, RC_a18 R2 VC_18, d0, d1, c, c1, c2, d2, Option.map_some, Option.some.injEq, exists_eq_left', true_and, true_implies, not_true, false_implies, not_false_eq_true, qn_s, Nat.zero_le]
          by_cases hin : k < n 7
          · rw [iT_T hin, Nat.min_eq_left (show k ≤ n 7 by omega), Nat.min_eq_left (show k + 1 ≤ n 7 by omega), cN_s]
            simp only [Option.map_some, reduceCtorEq, false_implies, true_and, Option.some.injEq, forall_eq', RC_o7 R2 (VC_7 hin), k_liesAt R2 G.1 hin hs, zl, bI_0, Classical.not_not]
            by_cases hp : z_lies σ k (nI s) (nI i)
            · rw [iT_T hp]; simp only [hp, not_true, false_implies, true_implies, true_and]
            · rw [iT_F hp]; simp only [hp, not_false_eq_true, false_implies, true_implies, and_true]
          · rw [iT_F hin, Nat.min_eq_right (show n 7 ≤ k by omega), Nat.min_eq_right (show n 7 ≤ k + 1 by omega)]
            simp only [Option.map_none, reduceCtorEq, true_implies, false_implies, implies_true, and_true]
    · rw [iT_F ha]
      exact ⟨fun _ => b30 (fun z => ha (by have := z.2; rw [qn_nat hs2] at this; exact this)), fun a e => (by cases e)⟩
  · rw [iT_F hv]
    exact ⟨fun _ => ⟨by omega, by omega, fun _ => b30 (fun z => hv z.1), fun a e => (by cases e)⟩, fun a e => (by cases e)⟩
end C
