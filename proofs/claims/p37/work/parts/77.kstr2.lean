/-! street: the call -/
section C
variable {ad : Nat → Nat → Nat} {S : PT} {T : CT} {σ : SG} {n len : Nat → Nat} {μ : MU} {pl : Nat → Nat} {B E : Nat}
theorem k_street (R : RC ad (VC n (z_len σ)) S T) (W : WJ (VC n (z_len σ)) T) (H : GI T σ μ n pl B E) (x1 x2 x3 x4 : Int32) {mc ms : Nat} (h1 : 60 ≤ mc) (h6 : 2000 ≤ ms) {post : Int32 → PT → Prop} {postX : String → PT → Prop}
    (hx1 : q_street σ x1 x2 x3 x4 = 1 → postX "java/lang/IndexOutOfBoundsException" S) (hx2 : q_street σ x1 x2 x3 x4 = 2 → postX "java/lang/IllegalArgumentException" S) (hx3 : q_street σ x1 x2 x3 x4 = 3 → postX "java/lang/IllegalStateException" S)
    (h : q_street σ x1 x2 x3 x4 = 0 → ∀ ad' S' T', RC ad' (VC (nU n 5) (z_len (u_street σ x1 x2 x3 x4))) S' T' → WJ (VC (nU n 5) (z_len (u_street σ x1 x2 x3 x4))) T' → (∀ k i, k ≠ 3 → k ≠ 5 → k ≠ 15 → ad' k i = ad k i) → tN T' 12 = tN T 12 → GI T' (u_street σ x1 x2 x3 x4) μ (nU n 5) pl B E → post (σ 1 0 + 1 - 1) S') : w_X8_street (ad 9 0) x1 x2 x3 x4 S mc ms post postX := by
  have e10 : σ 1 0 = nI (n 5) := H.1.1.1
  have n56 : n 5 ≤ 6 := H.1.1.2.1
  have Hb := H.1.2.2.2.2.2.2.2
  unfold w_X8_street
  unfold q_street at hx1 hx2 hx3 h
  refine ⟨(RC_o9 R VC_9).1, ?_⟩
  rw [k_streetAt R H.1]
  have b29 : ∀ v5 : Option Nat, (x4 = -1 ∨ ∃ k : Nat, k < n 5 ∧ x4 = nI k ∧ k < 2147483648) → v5 = (iT (x4 = -1) none (some x4.toNatClampNeg)).map (ad 5) → w_X8_street_b29 (ad 9 0) x1 x2 x3 x4 mc ms post postX 0 0 S v5 := by
    intro v5 hd hv5
    have hok4 : ¬ (¬ x4 = -1 ∧ ¬ (0 ≤ x4 ∧ x4 ≤ σ 1 0 - 1)) := by
      rintro ⟨a, b⟩
      rcases hd with h | ⟨k, hk, ek, hk2⟩
      · exact a h
      · refine b ?_
        rw [ek, e10, ile, ile, tsub, I0, nI_toInt hk2, nI_toInt (by omega), show (1 : Int32).toInt = 1 from by decide]
        omega
    rw [iT_F hok4] at hx2 hx3 h
    have b60 : ¬ ((1 ≤ x1 ∧ x1 ≤ 40) ∧ (0 ≤ x2 ∧ x2 ≤ 3) ∧ 0 ≤ x3 ∧ x3 ≤ 999) → w_X8_street_b60 (ad 9 0) x1 x2 x3 x4 mc ms post postX 0 0 S := fun hn => ⟨by omega, by omega, by omega, by omega, hx2 (iT_T hn)⟩
    unfold w_X8_street_b29
    refine ⟨by omega, by omega, fun a1 => b60 (fun z => by have := z.1.1; rw [← not_lt32] at this; exact this a1), fun a1 => ⟨fun a2 => b60 (fun z => by have := z.1.2; rw [← not_lt32] at this; exact this a2), fun a2 => ⟨fun a3 => b60 (fun z => by have := z.2.1.1; rw [← not_lt32] at this; exact this a3), fun a3 => ⟨fun a4 => b60 (fun z => by have := z.2.1.2; rw [← not_lt32] at this; exact this a4), fun a4 => ⟨fun a5 => b60 (fun z => by have := z.2.2.1; rw [← not_lt32] at this; exact this a5), fun a5 => ⟨fun a6 => ?_, fun a6 => b60 (fun z => a6 z.2.2.2)⟩⟩⟩⟩⟩⟩
    rw [not_lt32] at a1 a2 a3 a4 a5
    have hok : (1 ≤ x1 ∧ x1 ≤ 40) ∧ (0 ≤ x2 ∧ x2 ≤ 3) ∧ 0 ≤ x3 ∧ x3 ≤ 999 := ⟨⟨a1, a2⟩, ⟨a3, a4⟩, a5, a6⟩
    rw [iT_F (show ¬ ¬ _ from fun z => z hok)] at hx3 h
    have o9 := RC_o9 R (VC_9 (n := n) (len := z_len σ))
    have o17 := RC_a17 R (VC_17 (n := n) (len := z_len σ))
    obtain ⟨c901, -, -, -, p900, -, -, -, -, -, n17, -⟩ := H.1.2.1
    have e900 : gP S 900 (ad 9 0) = some (ad 17 0) := by rw [o9.2.1, p900]; rfl
    refine ⟨o9.1, ad 17 0, e900, o17.1, ?_⟩
    rw [o9.2.2.1, c901, o17.2.1, n17]
    have clt : nI (n 5) < nI 6 ↔ n 5 < 6 := qn_lt (by omega) (by omega)
    refine ⟨fun hlt => ?_, fun hlt => ⟨by omega, by omega, hx3 (iT_T ?_)⟩⟩
    · have hN := clt.mp hlt
      have hq0 : iT (σ 1 0 = 6) (3 : Int32) 0 = 0 := iT_F (by rw [e10, show (6 : Int32) = nI 6 from rfl, qn_eq (by omega) (by omega)]; omega)
      have h9 := h hq0
      rw [ile, show (1 : Int32).toInt = 1 from by decide] at a1
      rw [ile, show (40 : Int32).toInt = 40 from by decide] at a2
      obtain ⟨L, hL, rfl, hL2⟩ := ex_nI (x := x1) (n := 41) (by rw [ilt, I0]; omega) (by omega)
      rw [nI_toInt hL2] at a1
      refine ⟨by omega, by omega, ?_⟩
      intro q S1 hq es1
      have hno : ¬ VC n (z_len σ) 5 (n 5) := Nat.lt_irrefl _
      have R1 := RC_nO R W.1 hq hno (by decide) (by decide)
      have W1 := WJ_nO W hno (by decide)
      rw [← es1] at R1
      have e7 : ∀ k i, k ≠ 5 → up2 ad 5 (n 5) q k i = ad k i := fun k i hk => up2_f _ _ _ _ hk
      have e7i : ∀ i, i ≠ n 5 → up2 ad 5 (n 5) q 5 i = ad 5 i := fun i hi => up2_i _ _ hi
      have eq7 : up2 ad 5 (n 5) q 5 (n 5) = q := up2_s _ _ _ _
      have hv5' : v5 = (iT (x4 = -1) none (some x4.toNatClampNeg)).map (up2 ad 5 (n 5) q 5) := by
        rw [hv5]
        by_cases e : x4 = -1
        · rw [iT_T e]; rfl
        · obtain ⟨k, hk, ek, hk2⟩ := hd.resolve_left e
          rw [iT_F e, ek, qn_nat hk2]
          show some (ad 5 k) = some (up2 ad 5 (n 5) q 5 k)
          rw [e7i k (by omega)]
      generalize up2 ad 5 (n 5) q = A at *
      have v5v : Vn (VC n (z_len σ)) 5 (n 5) 5 (n 5) := Or.inr ⟨rfl, rfl⟩
      have v9v : Vn (VC n (z_len σ)) 5 (n 5) 9 0 := Or.inl rfl
      rw [← e7 17 0 (by decide), ← e7 9 0 (by decide), ← eq7]
      have g901 : gI S1 901 (A 9 0) = nI (n 5) := by rw [(RC_o9 R1 v9v).2.2.1, tI_N (by decide), c901]
      refine ⟨1 + L, L + 4 * L, by omega, by omega, ?_⟩
      rw [g901]
      unfold w_X4_init
      refine ⟨(RC_o5 R1 v5v).1, ?_⟩
      refine RC_uI R1 v5v 5 rfl (by decide) (by decide) (fun S2 R2 => ?_)
      refine RC_uI R2 v5v 6 rfl (by decide) (by decide) (fun S3 R3 => ?_)
      refine RC_uI R3 v5v 7 rfl (by decide) (by decide) (fun S4 R4 => ?_)
      refine RC_uI R4 v5v 8 rfl (by decide) (by decide) (fun S5 R5 => ?_)
      refine RC_uI R5 v5v 0 rfl (by decide) (by decide) (fun S6 R6 => ?_)
      refine RC_uI R6 v5v 1 rfl (by decide) (by decide) (fun S7 R7 => ?_)
      refine RC_uI R7 v5v 2 rfl (by decide) (by decide) (fun S8 R8 => ?_)
      refine RC_uP R8 v5v 3 rfl (by decide) (by decide) (iT (x4 = -1) none (some x4.toNatClampNeg)) hv5' (fun S9 R9 => ?_)
      have eif : (if nI L < 0 then 0 else nI L) = nI L := if_neg (by rw [ilt, I0, nI_toInt hL2]; omega)
      rw [eif, qn_nat hL2]
      refine ⟨by rw [ilt, I0, nI_toInt hL2]; omega, by omega, by omega, by omega, ?_⟩
      intro q2 S10 hq2 es10
      have W9 : WJ (Vn (VC n (z_len σ)) 5 (n 5)) (y_st0 T (n 5) x2 x3 (iT (x4 = -1) none (some x4.toNatClampNeg))) := by
        unfold y_st0
        refine WJ_uP (WJ_uI (WJ_uI (WJ_uI (WJ_uI (WJ_uI (WJ_uI (WJ_uI W1))))))) (by decide) (fun t ht => ?_)
        by_cases e : x4 = -1
        · rw [iT_T e] at ht; cases ht
        · obtain ⟨k, hk, ek, hk2⟩ := hd.resolve_left e
          rw [iT_F e, ek, qn_nat hk2] at ht
          cases ht
          exact Or.inl hk
      have hno2 : ¬ Vn (VC n (z_len σ)) 5 (n 5) 15 (n 5) := by
        rintro (z | ⟨z, -⟩)
        · exact Nat.lt_irrefl _ z
        · exact absurd z (by decide)
      have R9' : RC A (Vn (VC n (z_len σ)) 5 (n 5)) S9 (y_st0 T (n 5) x2 x3 (iT (x4 = -1) none (some x4.toNatClampNeg))) := R9
      have R10 := RC_nA R9' W9.1 (n := L) hq2 hno2 (by decide) (fun z => by omega) (by decide)
      have W10 := WJ_nA W9 (m := L) hno2 (by decide)
      rw [← es10] at R10
      rw [V3_0] at R10 W10
      have e8 : ∀ k i, k ≠ 15 → up2 A 15 (n 5) q2 k i = A k i := fun k i hk => up2_f _ _ _ _ hk
      have eq8 : up2 A 15 (n 5) q2 15 (n 5) = q2 := up2_s _ _ _ _
      generalize up2 A 15 (n 5) q2 = A2 at *
      rw [← e8 5 (n 5) (by decide), ← e8 17 0 (by decide), ← e8 9 0 (by decide), ← eq8]
      have v5w : V3 n (z_len σ) (n 5) 0 5 (n 5) := Or.inr (Or.inl ⟨rfl, rfl⟩)
      refine RC_uP R10 v5w 4 rfl (by decide) (by decide) (some (n 5)) rfl (fun S11 R11 => ?_)
      have R11' : RC A2 (V3 n (z_len σ) (n 5) 0) S11 (y_str T (n 5) L x2 x3 (iT (x4 = -1) none (some x4.toNatClampNeg))) := R11
      have W11 : WJ (V3 n (z_len σ) (n 5) 0) (y_str T (n 5) L x2 x3 (iT (x4 = -1) none (some x4.toNatClampNeg))) := WJ_uP W10 (by decide) (fun t ht => by cases ht; exact Or.inr (Or.inr (Or.inl ⟨rfl, rfl⟩)))
      have yx := str_x T (n 5) L x2 x3 (iT (x4 = -1) none (some x4.toNatClampNeg))
      have yJ := str_J T (n 5) L x2 x3 (iT (x4 = -1) none (some x4.toNatClampNeg))
      have yI : ∀ F, ¬ F / 100 = 5 → tI (y_str T (n 5) L x2 x3 (iT (x4 = -1) none (some x4.toNatClampNeg))) F = tI T F ∧ tP (y_str T (n 5) L x2 x3 (iT (x4 = -1) none (some x4.toNatClampNeg))) F = tP T F := fun F h => str_I _ _ _ _ _ _ h
      have GG := fun T5 A5 => g_street (T5 := T5) (g := x2) (f := x3) (d := x4) (L := L) H hN (by omega) (by omega) (by rw [ile, I0] at a3; exact a3) (by rw [ile, show (3 : Int32).toInt = 3 from by decide] at a4; exact a4) (by rw [ile, I0] at a5; exact a5) (by rw [ile, show (999 : Int32).toInt = 999 from by decide] at a6; exact a6) hd rfl A5
      generalize hYg : y_str T (n 5) L x2 x3 (iT (x4 = -1) none (some x4.toNatClampNeg)) = Y at *
      have SS0 : SS Y Y (n 5) 0 := by
        refine ⟨fun _ _ => ⟨rfl, rfl⟩, fun _ _ _ => ⟨rfl, rfl⟩, rfl, fun _ _ => rfl, fun _ _ => rfl, fun l => ?_, fun l hl => by omega, rfl, rfl⟩
        rw [yx.2.2.2, up2_s, iT_F (by omega)]
      refine ⟨L + 1, ?_⟩
      refine k_street_l (T0 := Y) (L := L) rfl (by omega) _ _ _ _ _ yJ.2.2.2.2.1 (by rw [yx.2.2.1, up2_s]) L 0 _ _ A2 S11 Y (by omega) R11' W11 SS0 (by omega) (by omega) (fun A3 S12 T5 R12 W12 A5 e9 => ?_)
      have G := GG T5 A5
      have eu : u_street σ (nI L) x2 x3 x4 = up2 (up2 (up2 (up2 (up2 (up2 σ 49 0 0) 2 (n 5) (nI L)) 3 (n 5) x2) 4 (n 5) x3) 5 (n 5) x4) 1 0 (nI (n 5 + 1)) := by
        unfold u_street
        rw [e10, qn_s, qn_nat (show n 5 < 2147483648 by omega)]
      rw [← eu] at G
      have hlu : z_len (u_street σ (nI L) x2 x3 x4) = fun j => if j = n 5 then L else z_len σ j := by
        funext j
        unfold z_len
        rw [eu]
        by_cases e : j = n 5
        · rw [e, if_pos rfl]; simp only [up2_s, up2_f, ne_eq, Nat.reduceEqDiff, not_false_eq_true]; exact qn_nat hL2
        · rw [if_neg e, up2_f _ _ _ _ (by decide), up2_i _ _ e, up2_i _ _ e, up2_i _ _ e, up2_i _ _ e, up2_f _ _ _ _ (by decide)]
      rw [V3_L n (z_len σ) (show L ≤ 40 by omega), ← hlu] at R12 W12
      rw [← e9 5 (n 5) (by decide), ← e9 17 0 (by decide), ← e9 9 0 (by decide)]
      have v5f : VC (nU n 5) (z_len (u_street σ (nI L) x2 x3 x4)) 5 (n 5) := by show n 5 < nU n 5 5; rw [nU_s]; omega
      have o17f := RC_a17 R12 (VC_17 (n := nU n 5) (len := z_len (u_street σ (nI L) x2 x3 x4)))
      have n17f : tN T5 17 0 = 6 := by rw [A5.2.2.1, yx.2.2.1, up2_f _ _ _ _ (by decide), n17]
      refine ⟨o17f.1, (RC_o5 R12 v5f).1, ?_, ?_⟩
      · rw [o17f.2.1, n17f]; exact vin_nI hN (by decide)
      rw [qn_nat (show n 5 < 2147483648 by omega)]
      refine RC_uR R12 (VC_17 (n := nU n 5) (len := z_len (u_street σ (nI L) x2 x3 x4))) (by decide) (some (n 5)) rfl (fun S13 R13 => ?_)
      have o9f := RC_o9 R13 (VC_9 (n := nU n 5) (len := z_len (u_street σ (nI L) x2 x3 x4)))
      have g901f : gI S13 901 (A3 9 0) = nI (n 5) := by
        rw [o9f.2.2.1, tI_uR, (A5.1 901 (by decide)).1, (yI 901 (by decide)).1, c901]
      refine ⟨o9f.1, ?_⟩
      rw [g901f, qn_s]
      refine RC_uI R13 VC_9 1 rfl (by decide) (by decide) (fun S14 R14 => ?_)
      have g901g : gI S14 901 (A3 9 0) = nI (n 5 + 1) := by
        rw [(RC_o9 R14 (VC_9 (n := nU n 5) (len := z_len (u_street σ (nI L) x2 x3 x4)))).2.2.1, tI_s]
      rw [g901g]
      rw [e10, qn_s] at h9
      refine h9 A3 S14 _ R14 (WJ_uI (WJ_uR W12 (fun t ht => by cases ht; exact v5f))) (fun k i h3 h5 h15 => ((e9 k i h3).trans (e8 k i h15)).trans (e7 k i h5)) ?_ G
      rw [tN_uI, tN_uR, A5.2.2.1, yx.2.2.1]
      funext x
      exact up2_f _ _ _ _ (by decide)
    · have : n 5 = 6 := by
        have : ¬ n 5 < 6 := fun z => hlt (clt.mpr z)
        omega
      rw [e10, this]; rfl
  by_cases hv : 0 ≤ x4 ∧ x4 ≤ σ 1 0 - 1
  · rw [iT_T hv]
    obtain ⟨s, hs, es, hs2⟩ := st_n H.1 hv
    have hne : ¬ x4 = -1 := by rw [es, ieq, nI_toInt hs2, show (-1 : Int32).toInt = -1 from by decide]; omega
    refine ⟨fun e => (by cases e), fun a e => b29 _ (Or.inr ⟨s, hs, es, hs2⟩) ?_⟩
    rw [iT_F hne]; rfl
  · rw [iT_F hv]
    refine ⟨fun _ => ⟨fun hm => b29 _ (Or.inl hm) ?_, fun hm => ⟨by omega, by omega, hx1 (iT_T ⟨hm, hv⟩)⟩⟩, fun a e => (by cases e)⟩
    rw [iT_T hm]; rfl
end C
