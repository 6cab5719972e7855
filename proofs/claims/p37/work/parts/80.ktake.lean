/-! who takes the streets; rents -/
/-- only field F of kind 5 differs -/
def S5 (P : Nat → Prop) (T T' : CT) : Prop := (∀ F, ¬ P F → tI T' F = tI T F) ∧ tP T' = tP T ∧ tN T' = tN T ∧ tR T' = tR T ∧ tJ T' = tJ T ∧ tA T' = tA T ∧ tB T' = tB T
theorem S5_r (P : Nat → Prop) (T : CT) : S5 P T T := ⟨fun _ _ => rfl, rfl, rfl, rfl, rfl, rfl, rfl⟩
theorem S5_t {P : Nat → Prop} {T T1 T2 : CT} (a : S5 P T T1) (b : S5 P T1 T2) : S5 P T T2 :=
  ⟨fun F h => (b.1 F h).trans (a.1 F h), b.2.1.trans a.2.1, b.2.2.1.trans a.2.2.1, b.2.2.2.1.trans a.2.2.2.1, b.2.2.2.2.1.trans a.2.2.2.2.1, b.2.2.2.2.2.1.trans a.2.2.2.2.2.1, b.2.2.2.2.2.2.trans a.2.2.2.2.2.2⟩
theorem S5_u {P : Nat → Prop} {T : CT} {F i : Nat} {v : Int32} (h : P F) : S5 P T (uI T F i v) :=
  ⟨fun G hG => tI_of (fun e => hG (by rw [e]; exact h)), rfl, rfl, rfl, rfl, rfl, rfl⟩
theorem S5_W {P : Nat → Prop} {T T' : CT} (a : S5 P T T') : SW T T' := ⟨a.2.1, a.2.2.2.1⟩
/-- who takes the street j -/
def TK (T : CT) (σ : SG) (n : Nat → Nat) : Prop := ∀ j, j < n 5 → ∀ l, bitI (tI T 509 j) l ↔ (l < n 8 ∧ σ 25 l = nI j ∧ z_takes σ l)
section C
variable {ad : Nat → Nat → Nat} {S : PT} {T : CT} {σ : SG} {n len : Nat → Nat} {μ : MU} {pl : Nat → Nat} {B E : Nat}
theorem gp_509 {T' : CT} (H : GI T σ μ n pl B E) (L : S5 (fun F => F = 509) T T') : GI T' σ μ n pl B E := by
  obtain ⟨⟨h1, h9, h5, h8, h7, h3, hv, hb⟩, ⟨hd, hs⟩, hr, h4, hl, hta, htb, fa, fb, fc, fd, fe, ff, fg, fh, fi⟩ := H
  have eS : ∀ f, ¬ False → σ f = σ f := fun _ _ => rfl
  have eI : ∀ F, ¬ F = 509 → tI T' F = tI T F := L.1
  have eP : ∀ F, ¬ False → tP T' F = tP T F := fun F _ => by rw [L.2.1]
  have eN : ∀ F, ¬ False → tN T' F = tN T F := fun F _ => by rw [L.2.2.1]
  have eR : ∀ F, ¬ False → tR T' F = tR T F := fun F _ => by rw [L.2.2.2.1]
  have eJ : tJ T' = tJ T := L.2.2.2.2.1
  have eA : tA T' = tA T := L.2.2.2.2.2.1
  have eM : μ = μ := rfl
  exact ⟨⟨h1, (D9_d (fun F hF => eI F (by first | omega | exact not_false)) (fun F hF => eP F (by first | omega | exact not_false)) (fun k hk => eN k (by first | omega | exact not_false)) (fun k hk hk2 => eR k (by first | omega | exact not_false)) (by rw [eS 0 (by first | omega | exact not_false)]) h9), (fun j hj => D5_c (fun F hF _ _ => by rw [eI F (by first | omega | exact not_false)]) (fun F hF => by rw [eP F (by first | omega | exact not_false)]) (by rw [eN 15 (by first | omega | exact not_false)]) (by rw [eR 15 (by first | omega | exact not_false)]) (fun f a b _ => by rw [eS f (by first | omega | exact not_false)]) (h5 j hj)), (fun k hk => ⟨D8_c (fun F hF => by rw [eI F (by first | omega | exact not_false)]) (fun F hF => by rw [eP F (by first | omega | exact not_false)]) (fun f a b => by rw [eS f (by first | omega | exact not_false)]) (by unfold z_opens; rw [eS 13 (by first | omega | exact not_false)]) (h8 k hk).1, D8a_c (by rw [eI 814 (by first | omega | exact not_false)]) (eS 39 (by first | omega | exact not_false)) (h8 k hk).2⟩), (fun t ht => D7_c (fun F hF => by rw [eI F (by first | omega | exact not_false)]) (fun F hF => by rw [eP F (by first | omega | exact not_false)]) (fun f a b => by rw [eS f (by first | omega | exact not_false)]) (eS 2 (by first | omega | exact not_false)) (h7 t ht)), fun j i hj hi => D3_c (fun F hF => by rw [eI F (by omega)]) (by rw [eP 303 not_false]) rfl rfl rfl (h3 j i hj hi), hv, hb⟩, ⟨(fun k hk => D1_c (fun F hF => by rw [eI F (by first | omega | exact not_false)]) (fun F hF => by rw [eP F (by first | omega | exact not_false)]) (fun f a b => eS f (by first | omega | exact not_false)) (hd k hk)), (DS_c (eI 508 (by first | omega | exact not_false)) (eS 7 (by first | omega | exact not_false)) hs)⟩, hr, (fun p hp => D4_c (by rw [eJ]) (fun F hF => by rw [eI F (by first | omega | exact not_false)]) (by rw [eM]) (eS 24 (by first | omega | exact not_false)) (eS 42 (by first | omega | exact not_false)) (by rw [eS 46 (by first | omega | exact not_false)]) (by rw [eS 47 (by first | omega | exact not_false)]) (h4 p hp)), (DL_c (eI 201 (by first | omega | exact not_false)) (eP 200 (by first | omega | exact not_false)) (eN 12 (by first | omega | exact not_false)) eA eM hl), (DTa_c (fun F hF => eI F (by first | omega | exact not_false)) (fun F hF => eP F (by first | omega | exact not_false)) (fun f hf => eS f (by first | omega | exact not_false)) hta), (DTb_c (eI 1102 (by first | omega | exact not_false)) (eP 1101 (by first | omega | exact not_false)) (eN 20 (by first | omega | exact not_false)) (eR 20 (by first | omega | exact not_false)) htb), fa, fb, fc, fd, fe, ff, fg, fh, fi⟩
theorem k_take2 (G0 : GI T σ μ n pl B E) {T0 : CT} : ∀ (d i : Nat) (S : PT) (T' : CT) (post : PT → Prop), i + d = 24 → S5 (fun F => F = 509) T T' → RC ad (VC n (z_len σ)) S T' →
    (∀ j, j < n 5 → ∀ l, bitI (tI T' 509 j) l ↔ (l < min i (n 8) ∧ σ 25 l = nI j ∧ z_takes σ l)) → (∀ S' T'', RC ad (VC n (z_len σ)) S' T'' → S5 (fun F => F = 509) T T'' → TK T'' σ n → post S') → w_X8_takeStreets_l35 (ad 9 0) post (d + 1) S (nI i) := by
  intro d
  induction d with
  | zero =>
    intro i S T' post hi L R J h
    have G := gp_509 G0 L
    have h24 : n 8 ≤ 24 := G.1.1.2.2.2.2.2.1
    have e1 : i = 24 := by omega
    subst e1
    unfold w_X8_takeStreets_l35
    obtain ⟨-, -, -, -, -, -, d0, -, -, -, -, -, d1, -⟩ := G.1.2.1
    have o9 := RC_o9 R (VC_9 (n := n) (len := z_len σ))
    have o19 := RC_a19 R (VC_19 (n := n) (len := z_len σ))
    refine ⟨o9.1, ad 19 0, by rw [o9.2.2.2.2.2.1, d0]; rfl, o19.1, ?_⟩
    rw [o19.2.1, d1]
    refine ⟨fun _ => h S T' R L (fun j hj l => by rw [J j hj l, Nat.min_eq_right h24]), fun hc => absurd (by decide) hc⟩
  | succ d ih =>
    intro i S T' post hi L R J h
    have G := gp_509 G0 L
    have h24 : n 8 ≤ 24 := G.1.1.2.2.2.2.2.1
    have Hb := G.1.2.2.2.2.2.2.2
    unfold w_X8_takeStreets_l35 w_X8_takeStreets_b78
    obtain ⟨-, -, -, -, -, -, d0, -, -, -, -, -, d1, -, -, -, d2, -⟩ := G.1.2.1
    have o9 := RC_o9 R (VC_9 (n := n) (len := z_len σ))
    have o19 := RC_a19 R (VC_19 (n := n) (len := z_len σ))
    have c : ¬ nI 24 ≤ nI i := by rw [qn_le (by omega) (by omega)]; omega
    refine ⟨o9.1, ad 19 0, by rw [o9.2.2.2.2.2.1, d0]; rfl, o19.1, ?_⟩
    rw [o19.2.1, d1, o19.2.2, qn_nat (show i < 2147483648 by omega), d2]
    refine ⟨fun hc => absurd hc c, fun _ => ⟨vin_nI (by omega) (by decide), ?_⟩⟩
    by_cases hin : i < n 8
    · rw [iT_T hin]
      rw [Nat.min_eq_left (show i ≤ n 8 by omega)] at J
      have ihn := ih (i + 1)
      rw [Nat.min_eq_left (show i + 1 ≤ n 8 by omega)] at ihn
      have o8 := RC_o8 R (VC_8 (n := n) (len := z_len σ) hin)
      have D := (G.1.2.2.2.1 i hin).1
      have w2 := D.2.2.1
      refine ⟨fun e => (by cases e), fun a6 e6 => ?_⟩
      cases e6
      refine ⟨o8.1, ?_⟩
      rw [k_takesStreet R hin D, bI_0]
      refine ⟨fun ht => ?_, fun ht => ⟨o8.1, ?_⟩⟩
      · rw [qn_s]
        refine ihn S T' post (by omega) L R (fun j hj l => ?_) h
        rw [J j hj l]
        constructor
        · rintro ⟨a, b⟩; exact ⟨by omega, b⟩
        · rintro ⟨a, b, c⟩
          refine ⟨?_, b, c⟩
          by_cases e : l = i
          · rw [e] at c; exact absurd c ht
          · omega
      · rw [Classical.not_not] at ht
        have hsw := (G.1.2.2.2.2.2.2.1.2.2.1 i hin).1
        have o5 := RC_o5 R (VC_5 (n := n) (len := z_len σ) hsw)
        obtain ⟨s, es, -, hs2⟩ := IB_nI Hb 25 i rfl
        have es2 : (σ 25 i).toNatClampNeg = s := by rw [es, qn_nat hs2]
        refine ⟨_, by rw [o8.2.2.2.1, w2]; rfl, o5.1, ?_⟩
        rw [k_bit R hin D]
        refine ⟨o5.1, ?_⟩
        rw [o5.2.2.2.2.2.2.2.2.2.2.1, es2]
        rw [es2] at hsw
        refine RC_uI R (VC_5 hsw) 9 rfl (by decide) (by decide) (fun S1 R1 => ?_)
        rw [qn_s]
        refine ihn S1 _ post (by omega) (S5_t L (S5_u rfl)) R1 (fun j hj l => ?_) h
        by_cases e : j = s
        · subst e
          rw [tI_s, bit_or, bit_1 (by omega), J j hj l]
          constructor
          · rintro (⟨a, b⟩ | a)
            · exact ⟨by omega, b⟩
            · rw [a]; exact ⟨by omega, es, ht⟩
          · rintro ⟨a, b⟩
            by_cases el : l = i
            · exact Or.inr el
            · exact Or.inl ⟨by omega, b⟩
        · rw [tI_i e, J j hj l]
          constructor
          · rintro ⟨a, b⟩; exact ⟨by omega, b⟩
          · rintro ⟨a, b, c⟩
            refine ⟨?_, b, c⟩
            by_cases el : l = i
            · rw [el, es, qn_eq hs2 (by have := G.1.1.2.1; omega)] at b; exact absurd b.symm e
            · omega
    · rw [iT_F hin]
      refine ⟨fun _ => ?_, fun a e => (by cases e)⟩
      rw [qn_s]
      refine ih (i + 1) S T' post (by omega) L R (fun j hj l => ?_) h
      rw [J j hj l, Nat.min_eq_right (show n 8 ≤ i by omega), Nat.min_eq_right (show n 8 ≤ i + 1 by omega)]
theorem k_takeStreets (G0 : GI T σ μ n pl B E) (R0 : RC ad (VC n (z_len σ)) S T) {post : PT → Prop} (h : ∀ S' T'', RC ad (VC n (z_len σ)) S' T'' → S5 (fun F => F = 509) T T'' → TK T'' σ n → post S') : w_X8_takeStreets (ad 9 0) S post := by
  have n56 : n 5 ≤ 6 := G0.1.1.2.1
  have key : ∀ (d i : Nat) (S : PT) (T' : CT), i + d = 6 → S5 (fun F => F = 509) T T' → RC ad (VC n (z_len σ)) S T' → (∀ j, j < i → j < n 5 → tI T' 509 j = 0) → w_X8_takeStreets_l2 (ad 9 0) post (d + 1) S (nI i) := by
    intro d
    induction d with
    | zero =>
      intro i S T' hi L R J
      have G := gp_509 G0 L
      have e1 : i = 6 := by omega
      subst e1
      unfold w_X8_takeStreets_l2
      obtain ⟨-, -, -, -, d0, -, -, -, -, -, d1, -⟩ := G.1.2.1
      have o9 := RC_o9 R (VC_9 (n := n) (len := z_len σ))
      have o17 := RC_a17 R (VC_17 (n := n) (len := z_len σ))
      refine ⟨o9.1, ad 17 0, by rw [o9.2.1, d0]; rfl, o17.1, ?_⟩
      rw [o17.2.1, d1]
      refine ⟨fun _ => ⟨25, ?_⟩, fun hc => absurd (by decide) hc⟩
      refine k_take2 (T0 := T) G0 24 0 S T' post (by omega) L R (fun j hj l => ?_) h
      rw [J j (by omega) hj, Nat.zero_min]
      exact ⟨fun z => absurd z (bit_0 l), fun z => absurd z.1 (Nat.not_lt_zero _)⟩
    | succ d ih =>
      intro i S T' hi L R J
      have G := gp_509 G0 L
      unfold w_X8_takeStreets_l2 w_X8_takeStreets_b27
      obtain ⟨-, -, -, -, d0, -, -, -, -, -, d1, -, -, -, d2, -⟩ := G.1.2.1
      have o9 := RC_o9 R (VC_9 (n := n) (len := z_len σ))
      have o17 := RC_a17 R (VC_17 (n := n) (len := z_len σ))
      have c : ¬ nI 6 ≤ nI i := by rw [qn_le (by omega) (by omega)]; omega
      refine ⟨o9.1, ad 17 0, by rw [o9.2.1, d0]; rfl, o17.1, ?_⟩
      rw [o17.2.1, d1, o17.2.2, qn_nat (show i < 2147483648 by omega), d2]
      refine ⟨fun hc => absurd hc c, fun _ => ⟨vin_nI (by omega) (by decide), ?_⟩⟩
      by_cases hin : i < n 5
      · rw [iT_T hin]
        refine ⟨fun e => (by cases e), fun a6 e6 => ?_⟩
        cases e6
        refine ⟨(RC_o5 R (VC_5 hin)).1, ?_⟩
        refine RC_uI R (VC_5 hin) 9 rfl (by decide) (by decide) (fun S1 R1 => ?_)
        rw [qn_s]
        refine ih (i + 1) S1 _ (by omega) (S5_t L (S5_u rfl)) R1 (fun j hj hj5 => ?_)
        by_cases e : j = i
        · rw [e, tI_s]
        · rw [tI_i e]; exact J j (by omega) hj5
      · rw [iT_F hin]
        refine ⟨fun _ => ?_, fun a e => (by cases e)⟩
        rw [qn_s]
        exact ih (i + 1) S T' (by omega) L R (fun j hj hj5 => J j (by omega) hj5)
  unfold w_X8_takeStreets
  exact ⟨7, key 6 0 S T rfl (S5_r _ _) R0 (fun j hj => absurd hj (Nat.not_lt_zero _))⟩
theorem TK_SL {T' : CT} (K : TK T σ n) (L : SL T T') : TK T' σ n := by
  unfold TK at *; rw [L.1 509 (by decide)]; exact K
theorem TK_taken (K : TK T σ n) {j : Nat} (hj : j < n 5) : (tI T 509 j = 0) ↔ ¬ z_taken σ (nI j) (n 8) := by
  rw [bit_z]
  unfold z_taken aN
  constructor
  · rintro h ⟨l, hl, h1, h2⟩
    exact h l ((K j hj l).mpr ⟨hl, h1, h2⟩)
  · intro h l hb
    obtain ⟨a, b, c⟩ := (K j hj l).mp hb
    exact h ⟨l, a, b, c⟩
theorem z_pay_0 (μ : MU) (a b : Nat) : z_pay μ a b 0 = μ := by
  have e : (0 : Int32).toInt64 = 0 := by decide
  unfold z_pay
  rw [e]
  funext i
  unfold vp_updL
  by_cases h1 : i = b
  · rw [if_pos h1]
    by_cases h2 : b = a
    · rw [if_pos h2, h1, h2]; simp
    · rw [if_neg h2, h1]; simp
  · rw [if_neg h1]
    by_cases h2 : i = a
    · rw [if_pos h2, h2]; simp
    · rw [if_neg h2]
end C
