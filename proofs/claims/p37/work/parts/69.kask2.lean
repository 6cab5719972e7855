/-! ask: the call -/
section C
variable {ad : Nat → Nat → Nat} {S : PT} {T : CT} {σ : SG} {n len : Nat → Nat} {μ : MU} {pl : Nat → Nat} {B E : Nat}
theorem k_ask (R : RC ad (VC n (z_len σ)) S T) (W : WJ (VC n (z_len σ)) T) (H : GI T σ μ n pl B E) (x1 x2 x3 x4 x5 x6 x7 x8 : Int32) {mc ms : Nat} (h1 : 60 ≤ mc) (h6 : 2000 ≤ ms) {post : Int32 → PT → Prop} {postX : String → PT → Prop}
    (hx1 : q_ask σ x1 x2 x3 x4 x5 x6 x7 x8 = 1 → postX "java/lang/IndexOutOfBoundsException" S) (hx2 : q_ask σ x1 x2 x3 x4 x5 x6 x7 x8 = 2 → postX "java/lang/IllegalArgumentException" S) (hx3 : q_ask σ x1 x2 x3 x4 x5 x6 x7 x8 = 3 → postX "java/lang/IllegalStateException" S)
    (h : q_ask σ x1 x2 x3 x4 x5 x6 x7 x8 = 0 → ∀ ad' S' T', RC ad' (VC (nU n 8) (z_len σ)) S' T' → WJ (VC (nU n 8) (z_len σ)) T' → (∀ k i, k ≠ 8 → ad' k i = ad k i) → tN T' = tN T → GI T' (u_ask σ x1 x2 x3 x4 x5 x6 x7 x8) μ (nU n 8) pl B E → post (σ 23 0 + 1 - 1) S') : w_X8_ask (ad 9 0) x1 x2 x3 x4 x5 x6 x7 x8 S mc ms post postX := by
  have h24 : n 8 ≤ 24 := H.1.1.2.2.2.2.2.1
  have es23 : σ 23 0 = nI (n 8) := H.1.1.2.2.2.2.1
  have Hb := H.1.2.2.2.2.2.2.2
  unfold w_X8_ask
  unfold q_ask at hx1 hx2 hx3 h
  have b38 : ¬ ((0 ≤ x1 ∧ x1 ≤ 4) ∧ z_mt σ x2 x3 ∧ z_mt σ x2 x4) → w_X8_ask_b38 (ad 9 0) x1 x2 x3 x4 x5 x6 x7 x8 mc ms post postX 0 0 S := fun hn => ⟨by omega, by omega, by omega, by omega, hx1 (iT_T hn)⟩
  refine ⟨(RC_o9 R VC_9).1, ?_⟩
  rw [k_streetAt R H.1]
  rw [k_isPromoter, bI_0]
  by_cases hp : 0 ≤ x1 ∧ x1 ≤ 4
  · refine ⟨fun hn => absurd hp hn, fun _ => ?_⟩
    by_cases hv : 0 ≤ x2 ∧ x2 ≤ σ 1 0 - 1
    · rw [iT_T hv]
      obtain ⟨s, hs, rfl, hs2⟩ := st_n H.1 hv
      rw [qn_nat hs2]
      refine ⟨fun e => (by cases e), fun a18 e18 => ?_⟩
      cases e18
      have o5 := RC_o5 R (VC_5 (n := n) (len := z_len σ) hs)
      refine ⟨o5.1, ?_⟩
      rw [k_metreAt R H.1 hs]
      by_cases ha : 0 ≤ x3 ∧ x3 ≤ σ 2 s - 1
      · rw [iT_T ha]
        refine ⟨fun e => (by cases e), fun a23 e23 => ⟨o5.1, ?_⟩⟩
        rw [k_metreAt R H.1 hs]
        by_cases hb : 0 ≤ x4 ∧ x4 ≤ σ 2 s - 1
        · rw [iT_T hb]
          obtain ⟨a, hal, rfl, ha40⟩ := len_in H.1 ha
          obtain ⟨b, hbl, rfl, hb40⟩ := len_in H.1 hb
          refine ⟨fun e => (by cases e), fun a28 e28 => ?_⟩
          have hall : (0 ≤ x1 ∧ x1 ≤ 4) ∧ z_mt σ (nI s) (nI a) ∧ z_mt σ (nI s) (nI b) := by
            unfold z_mt; rw [qn_nat hs2]; exact ⟨hp, ⟨hv, ha⟩, hv, hb⟩
          rw [iT_F (show ¬ ¬ _ from fun z => z hall)] at hx2 hx3 h
          have b80 : ¬ (¬ nI b < nI a ∧ (10 ≤ x5 ∧ x5 ≤ 300) ∧ (0 ≤ x6 ∧ x6 ≤ 3) ∧ 1 ≤ x8 ∧ x8 ≤ 60) → w_X8_ask_b80 (ad 9 0) x1 (nI s) (nI a) (nI b) x5 x6 x7 x8 mc ms post postX 0 0 S := fun hn => ⟨by omega, by omega, by omega, by omega, hx2 (iT_T hn)⟩
          refine ⟨fun hba => b80 (fun z => z.1 hba), fun hba => ⟨fun h10 => b80 (fun z => by have := z.2.1.1; rw [← not_lt32] at this; exact this h10), fun h10 => ⟨fun h300 => b80 (fun z => by have := z.2.1.2; rw [← not_lt32] at this; exact this h300), fun h300 => ⟨fun k0 => b80 (fun z => by have := z.2.2.1.1; rw [← not_lt32] at this; exact this k0), fun k0 => ⟨fun k3 => ⟨(RC_o9 R VC_9).1, ?_⟩, fun k3 => b80 (fun z => k3 z.2.2.1.2)⟩⟩⟩⟩⟩
          rw [k_today R H.1]
          refine ⟨o5.1, ?_⟩
          rw [k_noticeOf R hs (H.1.2.2.1 s hs)]
          have b128a : ¬ (1 ≤ x8 ∧ x8 ≤ 60) → w_X8_ask_b128 (ad 9 0) x1 (nI s) (nI a) (nI b) x5 x6 x7 x8 mc ms post postX 0 0 S := fun hn => ⟨by omega, by omega, by omega, by omega, hx2 (iT_T (fun z => hn z.2.2.2))⟩
          have b128b : ¬ (z_today σ + z_note x6 (σ 3 s) ≤ x7 ∧ x7 ≤ 999) → w_X8_ask_b128 (ad 9 0) x1 (nI s) (nI a) (nI b) x5 x6 x7 x8 mc ms post postX 0 0 S := by
            intro hn
            refine ⟨by omega, by omega, by omega, by omega, hx2 ?_⟩
            by_cases hok : ¬ nI b < nI a ∧ (10 ≤ x5 ∧ x5 ≤ 300) ∧ (0 ≤ x6 ∧ x6 ≤ 3) ∧ 1 ≤ x8 ∧ x8 ≤ 60
            · rw [iT_F (show ¬ ¬ _ from fun z => z hok), qn_nat hs2, iT_T hn]
            · rw [iT_T hok]
          refine ⟨fun d1 => b128b (fun z => by have := z.1; rw [← not_lt32] at this; exact this d1), fun d1 => ⟨fun d2 => b128b (fun z => by have := z.2; rw [← not_lt32] at this; exact this d2), fun d2 => ⟨fun m1 => b128a (fun z => by have := z.1; rw [← not_lt32] at this; exact this m1), fun m1 => ⟨fun m2 => ?_, fun m2 => b128a (fun z => m2 z.2)⟩⟩⟩⟩
          rw [not_lt32] at h10 h300 k0 d1 d2 m1
          have hok : ¬ nI b < nI a ∧ (10 ≤ x5 ∧ x5 ≤ 300) ∧ (0 ≤ x6 ∧ x6 ≤ 3) ∧ 1 ≤ x8 ∧ x8 ≤ 60 := ⟨hba, ⟨h10, h300⟩, ⟨k0, k3⟩, m1, m2⟩
          have hok2 : z_today σ + z_note x6 (σ 3 s) ≤ x7 ∧ x7 ≤ 999 := ⟨d1, d2⟩
          rw [iT_F (show ¬ ¬ _ from fun z => z hok), qn_nat hs2, iT_F (show ¬ ¬ _ from fun z => z hok2)] at hx3 h
          have o9 := RC_o9 R (VC_9 (n := n) (len := z_len σ))
          have o19 := RC_a19 R (VC_19 (n := n) (len := z_len σ))
          obtain ⟨-, -, c905, -, -, -, p904, -, -, -, -, -, n19, -⟩ := H.1.2.1
          have e904 : gP S 904 (ad 9 0) = some (ad 19 0) := by rw [o9.2.2.2.2.2.1, p904]; rfl
          refine ⟨o9.1, ad 19 0, e904, o19.1, ?_⟩
          rw [o9.2.2.2.2.2.2.1, c905, o19.2.1, n19]
          have clt : nI (n 8) < nI 24 ↔ n 8 < 24 := qn_lt (by omega) (by omega)
          refine ⟨fun hlt => ?_, fun hlt => ⟨by omega, by omega, hx3 (iT_T ?_)⟩⟩
          · have hN := clt.mp hlt
            have hq0 : iT (σ 23 0 = 24) (3 : Int32) 0 = 0 := iT_F (by rw [es23, show (24 : Int32) = nI 24 from rfl, qn_eq (by omega) (by omega)]; omega)
            have h9 := h hq0
            refine ⟨by omega, by omega, ?_⟩
            refine RC_uO R W (Or.inr (Or.inl rfl)) (fun q S1 R1 W1 => ?_)
            have e7 : ∀ k i, k ≠ 8 → up2 ad 8 (n 8) q k i = ad k i := fun k i hk => up2_f _ _ _ _ hk
            have eq7 : up2 ad 8 (n 8) q 8 (n 8) = q := up2_s _ _ _ _
            generalize up2 ad 8 (n 8) q = A at *
            have v8 : VC (nU n 8) (z_len σ) 8 (n 8) := by show n 8 < nU n 8 8; rw [nU_s]; omega
            have v5 : VC (nU n 8) (z_len σ) 5 s := hs
            rw [← e7 5 s (by decide), ← e7 9 0 (by decide), ← eq7]
            obtain ⟨p, hp5, rfl, hp2⟩ := ex_nI (x := x1) (n := 5) (by rw [not_lt32]; exact hp.1) (by have := hp.2; rw [ile, show (4 : Int32).toInt = 4 from by decide] at this; omega)
            have o91 := RC_o9 R1 (VC_9 (n := nU n 8) (len := z_len σ))
            have g909 : gI S1 909 (A 9 0) = σ 0 0 := by rw [o91.2.2.2.2.2.2.2.2.2.2, tI_N (by decide), H.1.2.1.2.2.2.1]
            have g905 : gI S1 905 (A 9 0) = nI (n 8) := by rw [o91.2.2.2.2.2.2.1, tI_N (by decide), c905]
            unfold w_X8_today
            refine ⟨o91.1, ?_⟩
            rw [g909, g905]
            have etd : σ 0 0 / 24 = z_today σ := rfl
            rw [etd]
            unfold w_X7_init
            refine ⟨(RC_o8 R1 v8).1, ?_⟩
            refine RC_uI R1 v8 0 rfl (by decide) (by decide) (fun S2 R2 => ?_)
            refine RC_uI R2 v8 1 rfl (by decide) (by decide) (fun S3 R3 => ?_)
            refine RC_uP R3 v8 2 rfl (by decide) (by decide) (some s) rfl (fun S4 R4 => ?_)
            refine RC_uI R4 v8 3 rfl (by decide) (by decide) (fun S5 R5 => ?_)
            refine RC_uI R5 v8 4 rfl (by decide) (by decide) (fun S6 R6 => ?_)
            have rest : ∀ v, v = (iT (x6 = 3) 1 0 : Int32) → w_X7_init_b43 (A 8 (n 8)) (nI (n 8)) (nI p) (some (A 5 s)) x6 (z_today σ) (fun S37 => gK S37 (A 8 (n 8)) = 8 ∧ w_X7_placeAt (A 8 (n 8)) (nI a) (nI b) x5 S37 (fun S40 => gK S40 (A 8 (n 8)) = 8 ∧ w_X7_planFor (A 8 (n 8)) x7 x8 S40 (fun S43 => gK S43 (A 9 0) = 9 ∧ ∃ a46, (gP S43 904 (A 9 0)) = some a46 ∧ gK S43 a46 = 19 ∧ gK S43 (A 8 (n 8)) = 8 ∧ vp_in (gI S43 905 (A 9 0)) (gN S43 a46) ∧ ∀ S51, S51 = sR S43 a46 (((gI S43 905 (A 9 0))).toNatClampNeg) (some (A 8 (n 8))) → ∀ S53, S53 = sI S51 905 (A 9 0) ((gI S51 905 (A 9 0)) + 1) → post (gI S53 800 (A 8 (n 8))) S53))) S6 (some (A 8 (n 8))) v := by
              intro v hv10
              unfold w_X7_init_b43
              refine ⟨A 8 (n 8), rfl, (RC_o8 R6 v8).1, ?_⟩
              refine RC_uI R6 v8 10 rfl (by decide) (by decide) (fun S7 R7 => ⟨(RC_o8 R7 v8).1, ?_⟩)
              unfold w_X7_placeAt
              refine ⟨(RC_o8 R7 v8).1, ?_⟩
              refine RC_uI R7 v8 5 rfl (by decide) (by decide) (fun S8 R8 => ?_)
              refine RC_uI R8 v8 6 rfl (by decide) (by decide) (fun S9 R9 => ?_)
              refine RC_uI R9 v8 7 rfl (by decide) (by decide) (fun S10 R10 => ⟨(RC_o8 R10 v8).1, ?_⟩)
              unfold w_X7_planFor
              refine ⟨(RC_o8 R10 v8).1, ?_⟩
              refine RC_uI R10 v8 8 rfl (by decide) (by decide) (fun S11 R11 => ?_)
              refine RC_uI R11 v8 9 rfl (by decide) (by decide) (fun S12 R12 => ?_)
              have o12 := RC_o9 R12 (VC_9 (n := nU n 8) (len := z_len σ))
              have o12a := RC_a19 R12 (VC_19 (n := nU n 8) (len := z_len σ))
              have g904 : gP S12 904 (A 9 0) = some (A 19 0) := by
                rw [o12.2.2.2.2.2.1]
                simp only [tP_N, p904, tI_uP, tI_uR, tP_uI, tP_uR, tR_uI, tR_uP, tR_uN, tN_uI, tN_uP, tN_uR, tN_uN, tJ_uI, tJ_uP, tJ_uR, tJ_N, tA_uI, tA_uP, tA_uR, tA_uN, tB_uI, tB_uP, tB_uR, tB_uN, tI_s, tI_o, tP_s, tP_o, tI_Ns, tP_Ns, ne_eq, Nat.reduceEqDiff, Nat.reduceDiv, Nat.reduceMul, Nat.reduceAdd, not_false_eq_true]
                rfl
              have g9052 : gI S12 905 (A 9 0) = nI (n 8) := by
                rw [o12.2.2.2.2.2.2.1]
                simp only [tI_N, c905, tI_uP, tI_uR, tP_uI, tP_uR, tR_uI, tR_uP, tR_uN, tN_uI, tN_uP, tN_uR, tN_uN, tJ_uI, tJ_uP, tJ_uR, tJ_N, tA_uI, tA_uP, tA_uR, tA_uN, tB_uI, tB_uP, tB_uR, tB_uN, tI_s, tI_o, tP_s, tP_o, tI_Ns, tP_Ns, ne_eq, Nat.reduceEqDiff, Nat.reduceDiv, Nat.reduceMul, Nat.reduceAdd, not_false_eq_true]
              refine ⟨o12.1, A 19 0, g904, o12a.1, (RC_o8 R12 v8).1, ?_, ?_⟩
              · rw [g9052, o12a.2.1]
                simp only [tI_uP, tI_uR, tP_uI, tP_uR, tR_uI, tR_uP, tR_uN, tN_uI, tN_uP, tN_uR, tN_uN, tJ_uI, tJ_uP, tJ_uR, tJ_N, tA_uI, tA_uP, tA_uR, tA_uN, tB_uI, tB_uP, tB_uR, tB_uN, tI_s, tI_o, tP_s, tP_o, tI_Ns, tP_Ns, ne_eq, Nat.reduceEqDiff, Nat.reduceDiv, Nat.reduceMul, Nat.reduceAdd, not_false_eq_true]
                rw [n19]
                exact vin_nI hN (by decide)
              rw [g9052, qn_nat (show n 8 < 2147483648 by omega)]
              refine RC_uR R12 (VC_19 (n := nU n 8) (len := z_len σ)) (by decide) (some (n 8)) rfl (fun S13 R13 => ?_)
              have o13 := RC_o9 R13 (VC_9 (n := nU n 8) (len := z_len σ))
              have g9053 : gI S13 905 (A 9 0) = nI (n 8) := by
                rw [o13.2.2.2.2.2.2.1]
                simp only [tI_N, c905, tI_uP, tI_uR, tP_uI, tP_uR, tR_uI, tR_uP, tR_uN, tN_uI, tN_uP, tN_uR, tN_uN, tJ_uI, tJ_uP, tJ_uR, tJ_N, tA_uI, tA_uP, tA_uR, tA_uN, tB_uI, tB_uP, tB_uR, tB_uN, tI_s, tI_o, tP_s, tP_o, tI_Ns, tP_Ns, ne_eq, Nat.reduceEqDiff, Nat.reduceDiv, Nat.reduceMul, Nat.reduceAdd, not_false_eq_true]
              rw [g9053, qn_s]
              refine RC_uI R13 VC_9 5 rfl (by decide) (by decide) (fun S14 R14 => ?_)
              have g800 : gI S14 800 (A 8 (n 8)) = nI (n 8) := by
                rw [(RC_o8 R14 v8).2.1]
                simp only [tI_uP, tI_uR, tP_uI, tP_uR, tR_uI, tR_uP, tR_uN, tN_uI, tN_uP, tN_uR, tN_uN, tJ_uI, tJ_uP, tJ_uR, tJ_N, tA_uI, tA_uP, tA_uR, tA_uN, tB_uI, tB_uP, tB_uR, tB_uN, tI_s, tI_o, tP_s, tP_o, tI_Ns, tP_Ns, ne_eq, Nat.reduceEqDiff, Nat.reduceDiv, Nat.reduceMul, Nat.reduceAdd, not_false_eq_true]
              rw [g800]
              have ha5 : a ≤ b := by rw [qn_lt (by omega) (by omega)] at hba; omega
              rw [ile, show (10 : Int32).toInt = 10 from by decide] at h10
              rw [ile, show (300 : Int32).toInt = 300 from by decide] at h300
              rw [ile, I0] at k0
              rw [ile, show (3 : Int32).toInt = 3 from by decide] at k3
              rw [ile, show (999 : Int32).toInt = 999 from by decide] at d2
              have hf1 : 0 ≤ x7.toInt := by
                have b0 := (Hb 0 0).1
                have b1 := (Hb 0 0).2
                simp only [bl, bh] at b0 b1
                simp at b0
                have zn : 0 ≤ (z_note x6 (σ 3 s)).toInt ∧ (z_note x6 (σ 3 s)).toInt ≤ 40 := by
                  unfold z_note
                  have : ∀ v : Int32, (v = 0 ∨ v = 3 ∨ v = 8 ∨ v = 20) → (0 ≤ v.toInt ∧ v.toInt ≤ 40) ∧ 0 ≤ (2 * v).toInt ∧ (2 * v).toInt ≤ 40 := by rintro v (rfl | rfl | rfl | rfl) <;> decide
                  have tri : (iT (x6 = 0) 20 (iT (x6 = 1) 8 (iT (x6 = 2) 3 0)) : Int32) = 0 ∨ (iT (x6 = 0) 20 (iT (x6 = 1) 8 (iT (x6 = 2) 3 0)) : Int32) = 3 ∨ (iT (x6 = 0) 20 (iT (x6 = 1) 8 (iT (x6 = 2) 3 0)) : Int32) = 8 ∨ (iT (x6 = 0) 20 (iT (x6 = 1) 8 (iT (x6 = 2) 3 0)) : Int32) = 20 :=
                    iT_ind (fun v : Int32 => v = 0 ∨ v = 3 ∨ v = 8 ∨ v = 20) (fun _ => Or.inr (Or.inr (Or.inr rfl))) (fun _ => iT_ind (fun v : Int32 => v = 0 ∨ v = 3 ∨ v = 8 ∨ v = 20) (fun _ => Or.inr (Or.inr (Or.inl rfl))) (fun _ => iT_ind (fun v : Int32 => v = 0 ∨ v = 3 ∨ v = 8 ∨ v = 20) (fun _ => Or.inr (Or.inl rfl)) (fun _ => Or.inl rfl)))
                  exact iT_ind (fun v : Int32 => 0 ≤ v.toInt ∧ v.toInt ≤ 40) (fun _ => (this _ tri).1) (fun _ => (this _ tri).2)
                have td : (z_today σ).toInt = (σ 0 0).toInt / 24 := by unfold z_today; rw [tdiv b0 (by decide), show (24 : Int32).toInt = 24 from by decide]
                have d3 := d1
                rw [ile, tadd, td] at d3
                omega
              have G := g_ask (d := x5) (a := a) (b := b) (k := x6) (f := x7) (m := x8) H hN hp5 hs ha5 hbl (by omega) (by omega) k0 k3 hf1 d2 rfl
              have W8 : WJ (VC (nU n 8) (z_len σ)) (y_ask T (n 8) p s (nI a) (nI b) x5 x6 x7 x8 (z_today σ)) := by
                unfold y_ask
                exact WJ_uI (WJ_uR (WJ_uI (WJ_uI (WJ_uI (WJ_uI (WJ_uI (WJ_uI (WJ_uI (WJ_uI (WJ_uP (WJ_uI (WJ_uI W1)) (by decide) (fun t ht => by cases ht; exact v5)))))))))) (fun t ht => by cases ht; exact v8))
              rw [es23, qn_s] at h9
              have e1 : nI (n 8 + 1) - 1 = nI (n 8) := by
                rw [ieq, tsub, nI_toInt (by omega), nI_toInt (by omega), show (1 : Int32).toInt = 1 from by decide]; omega
              rw [e1] at h9
              rw [hv10] at R14
              refine h9 A S14 _ R14 W8 e7 ?_ ?_
              · simp only [tI_uP, tI_uR, tP_uI, tP_uR, tR_uI, tR_uP, tR_uN, tN_uI, tN_uP, tN_uR, tN_uN, tJ_uI, tJ_uP, tJ_uR, tJ_N, tA_uI, tA_uP, tA_uR, tA_uN, tB_uI, tB_uP, tB_uR, tB_uN, tI_s, tI_o, tP_s, tP_o, tI_Ns, tP_Ns, ne_eq, Nat.reduceEqDiff, Nat.reduceDiv, Nat.reduceMul, Nat.reduceAdd, not_false_eq_true]
              · have eu : u_ask σ (nI p) (nI s) (nI a) (nI b) x5 x6 x7 x8 = up2 (up2 (up2 (up2 (up2 (up2 (up2 (up2 (up2 (up2 (up2 (up2 σ 49 0 0) 24 (n 8) (nI p)) 25 (n 8) (nI s)) 26 (n 8) (nI a)) 27 (n 8) (nI b)) 28 (n 8) x5) 29 (n 8) x6) 30 (n 8) x7) 31 (n 8) x8) 32 (n 8) (z_today σ)) 33 (n 8) (iT (x6 = 3) 1 0)) 23 0 (nI (n 8 + 1)) := by
                  unfold u_ask
                  rw [es23, qn_s, qn_nat (show n 8 < 2147483648 by omega)]
                rw [eu]; exact G
            exact ⟨fun hk3 => rest 0 (by rw [iT_F hk3]), fun hk3 => rest 1 (by rw [iT_T hk3])⟩
          · have : n 8 = 24 := by
              have : ¬ n 8 < 24 := fun z => hlt (clt.mpr z)
              omega
            rw [es23, this]; rfl
        · rw [iT_F hb]
          exact ⟨fun _ => b38 (fun z => hb (by have := z.2.2.2; rw [qn_nat hs2] at this; exact this)), fun a e => (by cases e)⟩
      · rw [iT_F ha]
        exact ⟨fun _ => b38 (fun z => ha (by have := z.2.1.2; rw [qn_nat hs2] at this; exact this)), fun a e => (by cases e)⟩
    · rw [iT_F hv]
      exact ⟨fun _ => b38 (fun z => hv z.2.1.1), fun a e => (by cases e)⟩
  · exact ⟨fun _ => b38 (fun z => hp z.1), fun hn => absurd hp hn⟩
end C
