/-! thing: the call -/
section C
variable {ad : Nat → Nat → Nat} {S : PT} {T : CT} {σ : SG} {n len : Nat → Nat} {μ : MU} {pl : Nat → Nat} {B E : Nat}
theorem k_thing_l (x1 x3 x5 : Int32) {mc ms c0 n0 : Nat} (hc : c0 ≤ mc) (hn : n0 ≤ ms) {post : Int32 → PT → Prop} {postX : String → PT → Prop} {s b : Nat} (hs : s < n 5) {l0 : Nat → Nat} (hb : b < l0 s) : ∀ (d i : Nat) (S : PT) (T : CT) (σ : SG), z_len σ = l0 → i + d = b + 1 → σ 49 0 = 0 → GI T σ μ n pl B E → RC ad (VC n l0) S T →
    (∀ S' T', RC ad (VC n l0) S' T' → SM T T' → GI T' (z_uns σ (40 * s + i) (40 * s + b + 1)) μ n pl B E → post (nI (n 7) - 1) S') → w_X8_thing_l138 (ad 9 0) x1 (nI s) x3 (nI b) x5 mc ms post postX (d + 1) c0 n0 S (some (ad 5 s)) (nI i) := by
  intro d
  induction d with
  | zero =>
    intro i S T σ hl hi h49 G R h
    have hl40 := (z_len_i G.1.2.2.2.2.2.2.2 s).2
    rw [hl] at hl40
    have e : i = b + 1 := by omega
    subst e
    unfold w_X8_thing_l138
    have c : nI b < nI (b + 1) := by rw [qn_lt (by omega) (by omega)]; omega
    refine ⟨hc, hn, fun _ => ⟨(RC_o9 R VC_9).1, ?_⟩, fun z => absurd c z⟩
    have o := (RC_o9 R VC_9).2.2.2.2.1
    rw [o, G.1.2.1.2.1]
    refine h S T R ⟨rfl, rfl, rfl⟩ ?_
    rw [show 40 * s + (b + 1) = 40 * s + b + 1 by omega, z_uns_0]
    exact G
  | succ d ih =>
    intro i S T σ hl hi h49 G R h
    have hz := z_len_i G.1.2.2.2.2.2.2.2 s
    have hl40 := hz.2
    rw [hl] at hl40
    unfold w_X8_thing_l138 w_X8_thing_b165
    have c : ¬ nI b < nI i := by rw [qn_lt (by omega) (by omega)]; omega
    refine ⟨hc, hn, fun z => absurd z c, fun _ => ⟨ad 5 s, rfl, (RC_o5 R (VC_5 hs)).1, ?_⟩⟩
    have R0 := R
    rw [← hl] at R0
    have hm : 0 ≤ nI i ∧ nI i ≤ σ 2 s - 1 := by
      rw [hz.1, hl, ile, ile, tsub, nI_toInt (by omega), nI_toInt (by omega), I0, show (1 : Int32).toInt = 1 from by decide]
      omega
    rw [k_metreAt R0 G.1 hs, iT_T hm, qn_nat (show i < 2147483648 by omega)]
    refine ⟨fun e => (by cases e), fun a e => ?_⟩
    cases e
    have v3 : VC n l0 3 (40 * s + i) := VC_3 hs (by omega) (by omega)
    refine ⟨(RC_o3 R v3).1, ?_⟩
    refine RC_uI R v3 0 rfl (by decide) (by decide) (fun S1 R1 => ⟨hc, hn, ?_⟩)
    have e49 : up2 σ 49 0 0 = σ := by have := up2_same σ 49 0; rw [h49] at this; exact this
    have G1 := gp_trial (v := 0) G hs (show i < z_len σ s by rw [hl]; omega) (Or.inl rfl) rfl
    rw [e49] at G1
    rw [qn_s]
    refine ih (i + 1) S1 _ (up2 σ 12 (40 * s + i) 0) ?_ (by omega) (by rw [up2_f _ _ _ _ (by decide)]; exact h49) G1 R1 (fun S' T' R' sm G' => h S' T' R' ⟨sm.1, sm.2.1, sm.2.2⟩ ?_)
    · rw [← hl]; exact z_len_c (fun j => by rw [up2_f _ _ _ _ (by decide)])
    · rw [show 40 * s + (i + 1) = 40 * s + i + 1 by omega, z_uns_s σ (by omega)] at G'
      exact G'
theorem k_thing (R : RC ad (VC n (z_len σ)) S T) (W : WJ (VC n (z_len σ)) T) (H : GI T σ μ n pl B E) (x1 x2 x3 x4 x5 : Int32) {mc ms : Nat} (h1 : 60 ≤ mc) (h6 : 2000 ≤ ms) {post : Int32 → PT → Prop} {postX : String → PT → Prop}
    (hx1 : q_thing σ x1 x2 x3 x4 x5 = 1 → postX "java/lang/IndexOutOfBoundsException" S) (hx2 : q_thing σ x1 x2 x3 x4 x5 = 2 → postX "java/lang/IllegalArgumentException" S) (hx3 : q_thing σ x1 x2 x3 x4 x5 = 3 → postX "java/lang/IllegalStateException" S)
    (h : q_thing σ x1 x2 x3 x4 x5 = 0 → ∀ ad' S' T', RC ad' (VC (nU n 7) (z_len σ)) S' T' → WJ (VC (nU n 7) (z_len σ)) T' → (∀ k i, k ≠ 7 → ad' k i = ad k i) → tN T' = tN T → GI T' (u_thing σ x1 x2 x3 x4 x5) μ (nU n 7) pl B E → post (σ 14 0 + 1 - 1) S') : w_X8_thing (ad 9 0) x1 x2 x3 x4 x5 S mc ms post postX := by
  have h30 : n 7 ≤ 30 := H.1.1.2.2.2.1
  have e14 : σ 14 0 = nI (n 7) := H.1.1.2.2.1
  have Hb := H.1.2.2.2.2.2.2.2
  unfold w_X8_thing
  unfold q_thing at hx1 hx2 hx3 h
  have b38 : ¬ ((0 ≤ x1 ∧ x1 ≤ 4) ∧ z_mt σ x2 x3 ∧ z_mt σ x2 x4) → w_X8_thing_b38 (ad 9 0) x1 x2 x3 x4 x5 mc ms post postX 0 0 S := fun hn => ⟨by omega, by omega, by omega, by omega, hx1 (iT_T hn)⟩
  refine ⟨(RC_o9 R VC_9).1, ?_⟩
  rw [k_streetAt R H.1]
  rw [k_isPromoter, bI_0]
  by_cases hp : 0 ≤ x1 ∧ x1 ≤ 4
  · refine ⟨fun hn => absurd hp hn, fun _ => ?_⟩
    by_cases hv : 0 ≤ x2 ∧ x2 ≤ σ 1 0 - 1
    · rw [iT_T hv]
      obtain ⟨s, hs, rfl, hs2⟩ := st_n H.1 hv
      rw [qn_nat hs2]
      refine ⟨fun e => (by cases e), fun a18 e18 => ?_⟩
      cases e18
      have o5 := RC_o5 R (VC_5 (n := n) (len := z_len σ) hs)
      refine ⟨o5.1, ?_⟩
      rw [k_metreAt R H.1 hs]
      by_cases ha : 0 ≤ x3 ∧ x3 ≤ σ 2 s - 1
      · rw [iT_T ha]
        refine ⟨fun e => (by cases e), fun a23 e23 => ⟨o5.1, ?_⟩⟩
        rw [k_metreAt R H.1 hs]
        by_cases hb : 0 ≤ x4 ∧ x4 ≤ σ 2 s - 1
        · rw [iT_T hb]
          obtain ⟨a, hal, rfl, ha40⟩ := len_in H.1 ha
          obtain ⟨b, hbl, rfl, hb40⟩ := len_in H.1 hb
          refine ⟨fun e => (by cases e), fun a28 e28 => ?_⟩
          have hall : (0 ≤ x1 ∧ x1 ≤ 4) ∧ z_mt σ (nI s) (nI a) ∧ z_mt σ (nI s) (nI b) := by
            unfold z_mt; rw [qn_nat hs2]; exact ⟨hp, ⟨hv, ha⟩, hv, hb⟩
          rw [iT_F (show ¬ ¬ _ from fun z => z hall)] at hx2 hx3 h
          have b69 : ¬ (¬ nI b < nI a ∧ 10 ≤ x5 ∧ x5 ≤ 300) → w_X8_thing_b69 (ad 9 0) x1 (nI s) (nI a) (nI b) x5 mc ms post postX 0 0 S := fun hn => ⟨by omega, by omega, by omega, by omega, hx2 (iT_T hn)⟩
          refine ⟨fun hba => b69 (fun z => z.1 hba), fun hba => ⟨fun h10 => b69 (fun z => by have := z.2.1; rw [← not_lt32] at this; exact this h10), fun h10 => ⟨fun h300 => ?_, fun h300 => b69 (fun z => h300 z.2.2)⟩⟩⟩
          have hok : ¬ nI b < nI a ∧ 10 ≤ x5 ∧ x5 ≤ 300 := ⟨hba, by rw [← not_lt32]; exact h10, h300⟩
          rw [iT_F (show ¬ ¬ _ from fun z => z hok)] at hx3 h
          have o9 := RC_o9 R (VC_9 (n := n) (len := z_len σ))
          have o18 := RC_a18 R (VC_18 (n := n) (len := z_len σ))
          obtain ⟨-, c903, -, -, -, p902, -, -, -, -, -, n18, -⟩ := H.1.2.1
          have e902 : gP S 902 (ad 9 0) = some (ad 18 0) := by rw [o9.2.2.2.1, p902]; rfl
          refine ⟨o9.1, ad 18 0, e902, o18.1, ?_⟩
          rw [o9.2.2.2.2.1, c903, o18.2.1, n18]
          have clt : nI (n 7) < nI 30 ↔ n 7 < 30 := qn_lt (by omega) (by omega)
          refine ⟨fun hlt => ?_, fun hlt => ⟨by omega, by omega, hx3 (iT_T ?_)⟩⟩
          · have hN := clt.mp hlt
            have hq0 : iT (σ 14 0 = 30) (3 : Int32) 0 = 0 := iT_F (by rw [e14, show (30 : Int32) = nI 30 from rfl, qn_eq (by omega) (by omega)]; omega)
            have h9 := h hq0
            refine ⟨by omega, by omega, ?_⟩
            refine RC_uO R W (Or.inl rfl) (fun q S1 R1 W1 => ?_)
            have e7 : ∀ k i, k ≠ 7 → up2 ad 7 (n 7) q k i = ad k i := fun k i hk => up2_f _ _ _ _ hk
            have eq7 : up2 ad 7 (n 7) q 7 (n 7) = q := up2_s _ _ _ _
            generalize up2 ad 7 (n 7) q = A at *
            have hbl2 : b < z_len σ s := hbl
            have v7 : VC (nU n 7) (z_len σ) 7 (n 7) := by show n 7 < nU n 7 7; rw [nU_s]; omega
            have v5 : VC (nU n 7) (z_len σ) 5 s := hs
            rw [← e7 5 s (by decide), ← e7 18 0 (by decide), ← e7 9 0 (by decide), ← eq7]
            obtain ⟨p, hp5, rfl, hp2⟩ := ex_nI (x := x1) (n := 5) (by rw [not_lt32]; exact hp.1) (by have := hp.2; rw [ile, show (4 : Int32).toInt = 4 from by decide] at this; omega)
            unfold w_X6_init
            refine ⟨(RC_o7 R1 v7).1, ?_⟩
            refine RC_uI R1 v7 0 rfl (by decide) (by decide) (fun S2 R2 => ?_)
            refine RC_uP R2 v7 1 rfl (by decide) (by decide) (some s) rfl (fun S3 R3 => ?_)
            refine RC_uI R3 v7 2 rfl (by decide) (by decide) (fun S4 R4 => ?_)
            refine RC_uI R4 v7 3 rfl (by decide) (by decide) (fun S5 R5 => ?_)
            refine RC_uI R5 v7 4 rfl (by decide) (by decide) (fun S6 R6 => ?_)
            have o186 := RC_a18 R6 (VC_18 (n := nU n 7) (len := z_len σ))
            refine ⟨o186.1, (RC_o7 R6 v7).1, ?_, ?_⟩
            · rw [o186.2.1]
              simp only [tI_uP, tI_uR, tP_uI, tP_uR, tR_uI, tR_uP, tR_uN, tN_uI, tN_uP, tN_uR, tN_uN, tJ_uI, tJ_uP, tJ_uR, tJ_N, tA_uI, tA_uP, tA_uR, tA_uN, tB_uI, tB_uP, tB_uR, tB_uN, tI_s, tI_o, tP_s, tP_o, tI_Ns, tP_Ns, ne_eq, Nat.reduceEqDiff, Nat.reduceDiv, Nat.reduceMul, Nat.reduceAdd, not_false_eq_true]
              rw [n18]
              exact vin_nI hN (by decide)
            rw [qn_nat (show n 7 < 2147483648 by omega)]
            refine RC_uR R6 (VC_18 (n := nU n 7) (len := z_len σ)) (by decide) (some (n 7)) rfl (fun S7 R7 => ?_)
            have o97 := RC_o9 R7 (VC_9 (n := nU n 7) (len := z_len σ))
            have c9037 : gI S7 903 (A 9 0) = nI (n 7) := by
              rw [o97.2.2.2.2.1]
              simp only [tI_N, c903, tI_uP, tI_uR, tP_uI, tP_uR, tR_uI, tR_uP, tR_uN, tN_uI, tN_uP, tN_uR, tN_uN, tJ_uI, tJ_uP, tJ_uR, tJ_N, tA_uI, tA_uP, tA_uR, tA_uN, tB_uI, tB_uP, tB_uR, tB_uN, tI_s, tI_o, tP_s, tP_o, tI_Ns, tP_Ns, ne_eq, Nat.reduceEqDiff, Nat.reduceDiv, Nat.reduceMul, Nat.reduceAdd, not_false_eq_true]
            refine ⟨o97.1, ?_⟩
            rw [c9037, qn_s]
            refine RC_uI R7 VC_9 3 rfl (by decide) (by decide) (fun S8 R8 => ?_)
            have ha5 : a ≤ b := by rw [qn_lt (by omega) (by omega)] at hba; omega
            have h10i := hok.2.1
            have h300i := hok.2.2
            rw [ile, show (10 : Int32).toInt = 10 from by decide] at h10i
            rw [ile, show (300 : Int32).toInt = 300 from by decide] at h300i
            have G := g_thing (d := x5) (a := a) (b := b) H hN hp5 hs ha5 hbl (by omega) (by omega) rfl
            have W8 : WJ (VC (nU n 7) (z_len σ)) (y_th T (n 7) p s a b 0 x5) := WJ_uR (T := uI (uI (uI (uP (uI (uN T 7 (n 7)) 700 (n 7) (nI p)) 701 (n 7) (some s)) 702 (n 7) (nI a)) 703 (n 7) (nI b)) 704 (n 7) x5) (WJ_uP (T := uI (uN T 7 (n 7)) 700 (n 7) (nI p)) W1 (by decide) (fun t ht => by cases ht; exact v5)) (fun t ht => by cases ht; exact v7)
            refine ⟨b + 1 - a + 1, ?_⟩
            refine k_thing_l (n := nU n 7) (l0 := z_len σ) (b := b) (nI p) (nI a) x5 (by omega) (by omega) hs hbl (b + 1 - a) a S8 _ _ ?_ (by omega) ?_ G R8 (fun S' T' R' sm G' => ?_)
            · exact z_len_c (fun j => by simp only [up2_f, ne_eq, Nat.reduceEqDiff, not_false_eq_true])
            · simp only [up2_f, up2_s, ne_eq, Nat.reduceEqDiff, not_false_eq_true]
            · rw [nU_s, ← qn_s, ← e14]
              refine h9 A S' T' R' ?_ e7 (by rw [sm.2.1]; rfl) ?_
              · exact SW_J ⟨sm.1, sm.2.2⟩ W8
              · have eu : u_thing σ (nI p) (nI s) (nI a) (nI b) x5 = z_uns (up2 (up2 (up2 (up2 (up2 (up2 (up2 σ 49 0 0) 15 (n 7) (nI p)) 16 (n 7) (nI s)) 17 (n 7) (nI a)) 18 (n 7) (nI b)) 19 (n 7) x5) 14 0 (nI (n 7 + 1))) (40 * s + a) (40 * s + b + 1) := by
                  unfold u_thing
                  rw [e14, qn_s, qn_nat (show n 7 < 2147483648 by omega), qn_nat hs2, qn_nat (show a < 2147483648 by omega), qn_nat (show b < 2147483648 by omega)]
                  funext f i
                  by_cases e : f = 14 ∧ i = 0
                  · rw [e.1, e.2, up2_s, z_uns_f _ _ _ _ (by decide), up2_s]
                  · rw [up2_ne _ _ e]
                    unfold z_uns
                    rw [up2_ne _ _ e]
                rw [eu]; exact G'
          · have : n 7 = 30 := by
              have : ¬ n 7 < 30 := fun z => hlt (clt.mpr z)
              omega
            rw [e14, this]; rfl
        · rw [iT_F hb]
          exact ⟨fun _ => b38 (fun z => hb (by have := z.2.2.2; rw [qn_nat hs2] at this; exact this)), fun a e => (by cases e)⟩
      · rw [iT_F ha]
        exact ⟨fun _ => b38 (fun z => ha (by have := z.2.1.2; rw [qn_nat hs2] at this; exact this)), fun a e => (by cases e)⟩
    · rw [iT_F hv]
      exact ⟨fun _ => b38 (fun z => hv z.2.1.1), fun a e => (by cases e)⟩
  · exact ⟨fun _ => b38 (fun z => hp z.1), fun hn => absurd hp hn⟩
end C
