/-! thing -/
section C
variable {ad : Nat → Nat → Nat} {S : PT} {T : CT} {σ : SG} {n len : Nat → Nat} {μ : MU} {pl : Nat → Nat} {B E : Nat}
/-- the thing N is there -/
def y_th (T : CT) (N p s a b d : Nat) (d' : Int32) : CT := uI (uR (uI (uI (uI (uP (uI (uN T 7 N) 700 N (nI p)) 701 N (some s)) 702 N (nI a)) 703 N (nI b)) 704 N d') 18 0 N (some N)) 903 0 (nI (N + 1))
theorem g_thing (H : GI T σ μ n pl B E) (hN : n 7 < 30) {p s a b : Nat} {d : Int32} (hp : p < 5) (hs0 : s < n 5) (hab : a ≤ b) (hbl : b < z_len σ s) (hd1 : 0 ≤ d.toInt) (hd2 : d.toInt ≤ 300) {σ' : SG}
    (es : σ' = up2 (up2 (up2 (up2 (up2 (up2 (up2 σ 49 0 0) 15 (n 7) (nI p)) 16 (n 7) (nI s)) 17 (n 7) (nI a)) 18 (n 7) (nI b)) 19 (n 7) d) 14 0 (nI (n 7 + 1))) : GI (y_th T (n 7) p s a b 0 d) σ' μ (nU n 7) pl B E := by
  obtain ⟨⟨h1, h9, h5, h8, h7, h3, hv, hb⟩, ⟨hd, hs⟩, hr, h4, hl, hta, htb, fa, fb, fc, fd, fe, ff, fg, fh, fi⟩ := H
  have h6 : n 5 ≤ 6 := h1.2.1
  have hl40 := (z_len_i hb s).2
  have eS : ∀ f, ¬ (f = 14 ∨ f = 15 ∨ f = 16 ∨ f = 17 ∨ f = 18 ∨ f = 19 ∨ f = 49) → σ' f = σ f := fun f h => by rw [es, sg_o (by omega), sg_o (by omega), sg_o (by omega), sg_o (by omega), sg_o (by omega), sg_o (by omega), sg_o (by omega)]
  have eI : ∀ F, ¬ (F / 100 = 7 ∨ F = 903) → tI (y_th T (n 7) p s a b 0 d) F = tI T F := fun F h => by
    unfold y_th
    rw [tI_of (by omega), tI_uR, tI_of (by omega), tI_of (by omega), tI_of (by omega), tI_uP, tI_of (by omega), tI_N (by omega)]
  have eP : ∀ F, ¬ (F / 100 = 7) → tP (y_th T (n 7) p s a b 0 d) F = tP T F := fun F h => by
    unfold y_th
    rw [tP_uI, tP_uR, tP_uI, tP_uI, tP_uI, tP_of (by omega), tP_uI, tP_N (by omega)]
  have eR : ∀ k, ¬ (k = 18) → tR (y_th T (n 7) p s a b 0 d) k = tR T k := fun k h => tR_of (T := T) (i := 0) (j := n 7) (v := some (n 7)) h
  have eN : ∀ F9, ¬ False → tN (y_th T (n 7) p s a b 0 d) F9 = tN T F9 := fun _ _ => rfl
  have eA : tA (y_th T (n 7) p s a b 0 d) = tA T := rfl
  have eJ : tJ (y_th T (n 7) p s a b 0 d) = tJ T := rfl
  have eM : μ = μ := rfl
  have ei : ∀ f t, t ≠ n 7 → f ≠ 14 → f ≠ 49 → σ' f t = σ f t := fun f t h h14 h49 => by
    rw [es, up2_f _ _ _ _ h14, up2_i _ _ h, up2_i _ _ h, up2_i _ _ h, up2_i _ _ h, up2_i _ _ h, up2_f _ _ _ _ h49]
  have hlz : z_len σ' = z_len σ := z_len_c (fun j => by rw [eS 2 (by omega)])
  have s15 : σ' 15 (n 7) = nI p := by rw [es]; simp only [up2_s, up2_f, ne_eq, Nat.reduceEqDiff, not_false_eq_true]
  have s16 : σ' 16 (n 7) = nI s := by rw [es]; simp only [up2_s, up2_f, ne_eq, Nat.reduceEqDiff, not_false_eq_true]
  have s17 : σ' 17 (n 7) = nI a := by rw [es]; simp only [up2_s, up2_f, ne_eq, Nat.reduceEqDiff, not_false_eq_true]
  have s18 : σ' 18 (n 7) = nI b := by rw [es]; simp only [up2_s, up2_f, ne_eq, Nat.reduceEqDiff, not_false_eq_true]
  have s19 : σ' 19 (n 7) = d := by rw [es]; simp only [up2_s, up2_f, ne_eq, Nat.reduceEqDiff, not_false_eq_true]
  have s14 : σ' 14 0 = nI (n 7 + 1) := by rw [es, up2_s]
  have eo : ∀ F t, F / 100 = 7 → t ≠ n 7 → tI (y_th T (n 7) p s a b 0 d) F t = tI T F t := fun F t hF h => by
    unfold y_th
    rw [tI_o (by omega), tI_uR, tI_i h, tI_i h, tI_i h, tI_uP, tI_i h, tI_Ni h]
  have epo : ∀ F t, t ≠ n 7 → tP (y_th T (n 7) p s a b 0 d) F t = tP T F t := fun F t h => by
    unfold y_th
    rw [tP_uI, tP_uR, tP_uI, tP_uI, tP_uI, tP_i h, tP_uI, tP_Ni h]
  refine ⟨⟨?_, ?_, (fun j hj => D5_c (fun F hF _ _ => by rw [eI F (by first | omega | exact not_false)]) (fun F hF => by rw [eP F (by first | omega | exact not_false)]) (by rw [eN 15 (by first | omega | exact not_false)]) (by rw [eR 15 (by first | omega | exact not_false)]) (fun f a b _ => by rw [eS f (by first | omega | exact not_false)]) (h5 j hj)), (fun k hk => ⟨D8_c (fun F hF => by rw [eI F (by first | omega | exact not_false)]) (fun F hF => by rw [eP F (by first | omega | exact not_false)]) (fun f a b => by rw [eS f (by first | omega | exact not_false)]) (by unfold z_opens; rw [eS 13 (by first | omega | exact not_false)]) (h8 k hk).1, D8a_c (by rw [eI 814 (by first | omega | exact not_false)]) (eS 39 (by first | omega | exact not_false)) (h8 k hk).2⟩), ?_, (fun j i hj hi => D3_c (fun F hF => by rw [eI F (by first | omega | exact not_false)]) (by rw [eP 303 (by first | omega | exact not_false)]) (by rw [eS 12 (by first | omega | exact not_false)]) (by rw [eS 13 (by first | omega | exact not_false)]) (eS 41 (by first | omega | exact not_false)) (h3 j i hj (by rw [show z_len _ = z_len σ from z_len_c (fun j => by rw [eS 2 (by first | omega | exact not_false)])] at hi; exact hi))), ?_, ?_⟩, ⟨(fun k hk => D1_c (fun F hF => by rw [eI F (by first | omega | exact not_false)]) (fun F hF => by rw [eP F (by first | omega | exact not_false)]) (fun f a b => eS f (by first | omega | exact not_false)) (hd k hk)), (DS_c (eI 508 (by first | omega | exact not_false)) (eS 7 (by first | omega | exact not_false)) hs)⟩, ?_, (fun p hp => D4_c (by rw [eJ]) (fun F hF => by rw [eI F (by first | omega | exact not_false)]) (by rw [eM]) (eS 24 (by first | omega | exact not_false)) (eS 42 (by first | omega | exact not_false)) (by rw [eS 46 (by first | omega | exact not_false)]) (by rw [eS 47 (by first | omega | exact not_false)]) (h4 p hp)), (DL_c (eI 201 (by first | omega | exact not_false)) (eP 200 (by first | omega | exact not_false)) (eN 12 (by first | omega | exact not_false)) eA eM hl), (DTa_c (fun F hF => eI F (by first | omega | exact not_false)) (fun F hF => eP F (by first | omega | exact not_false)) (fun f hf => eS f (by first | omega | exact not_false)) hta), (DTb_c (eI 1102 (by first | omega | exact not_false)) (eP 1101 (by first | omega | exact not_false)) (eN 20 (by first | omega | exact not_false)) (eR 20 (by first | omega | exact not_false)) htb), (FRa_c (fun f hf => eS f (by first | omega | exact not_false)) fa), (FRb_c (eS 2 (by first | omega | exact not_false)) (eS 12 (by first | omega | exact not_false)) fb), ?_, (FRd_c (fun f hf => eS f (by first | omega | exact not_false)) fd), (FRe_c (eS 13 (by first | omega | exact not_false)) fe), (FRf_c (eS 39 (by first | omega | exact not_false)) ff), (FRg_c (eS 45 (by first | omega | exact not_false)) fg), (FRh_c (eS 7 (by first | omega | exact not_false)) (eS 40 (by first | omega | exact not_false)) fh), (FRi_c (eS 46 (by first | omega | exact not_false)) fi)⟩
  · obtain ⟨a1, a2, a3, a4, a5⟩ := h1
    refine ⟨by rw [eS 1 (by omega)]; exact a1, a2, by rw [s14, nU_s], by rw [nU_s]; omega, ?_⟩
    rw [eS 23 (by omega), eS 40 (by omega)]; exact a5
  · obtain ⟨b0, b1, b2, b3, b4, b5, b6, b7, b8, b9, b10, b11, b12, b13, b14, b15, b16, b17, b18⟩ := h9
    unfold D9
    rw [eI 901 (by omega), eI 905 (by omega), eI 909 (by omega), eP 900 (by omega), eP 902 (by omega), eP 904 (by omega), eP 906 (by omega), eP 907 (by omega), eP 908 (by omega), eN 17 not_false, eN 18 not_false, eN 19 not_false, eN 16 not_false, eN 13 not_false, eR 17 (by omega), eR 19 (by omega), eR 16 (by omega), eS 0 (by omega), nU_s]
    refine ⟨b0, tI_s, b2, b3, b4, b5, b6, b7, b8, b9, b10, b11, b12, b13, b14, fun i => ?_, b16, b17, b18⟩
    have : tR (y_th T (n 7) p s a b 0 d) 18 0 i = if i = n 7 then some (n 7) else tR T 18 0 i := tR_s i
    rw [this, b15]
    by_cases e : i = n 7
    · rw [if_pos e, iT_T (by omega), e]
    · rw [if_neg e]
      by_cases hi : i < n 7
      · rw [iT_T hi, iT_T (by omega)]
      · rw [iT_F hi, iT_F (by omega)]
  · intro t ht
    rw [nU_s] at ht
    by_cases e : t = n 7
    · rw [e]
      unfold D7
      rw [s15, s16, s17, s18, s19, eS 20 (by omega), fc (n 7) (Nat.le_refl _), eS 2 (by omega)]
      rw [qn_nat (show s < 2147483648 by omega)]
      unfold y_th
      refine ⟨?_, ?_, ?_, ?_, ?_, ?_, fun h => absurd rfl h⟩
      all_goals simp only [tI_uP, tI_uR, tP_uI, tP_uR, tR_uI, tR_uP, tR_uN, tN_uI, tN_uP, tN_uR, tN_uN, tJ_uI, tJ_uP, tJ_uR, tJ_N, tA_uI, tA_uP, tA_uR, tA_uN, tB_uI, tB_uP, tB_uR, tB_uN, tI_s, tI_o, tP_s, tP_o, tI_Ns, tP_Ns, ne_eq, Nat.reduceEqDiff, Nat.reduceDiv, Nat.reduceMul, Nat.reduceAdd, not_false_eq_true]
    · exact D7_c (fun F hF => eo F t hF e) (fun F _ => epo F t e) (fun f q r => ei f t e (by omega) (by omega)) (eS 2 (by omega)) (h7 t (by omega))
  · obtain ⟨v1, v2, v3, v4, v5, v6⟩ := hv
    unfold DV
    rw [hlz, eS 5 (by omega), eS 13 (by omega), eS 25 (by omega), eS 26 (by omega), eS 27 (by omega), eS 42 (by omega), eS 39 (by omega)]
    refine ⟨v1, fun t ht => ?_, v3, v4, v5, v6⟩
    rw [nU_s] at ht
    by_cases e : t = n 7
    · rw [e, s16, s17, s18, qn_nat (by omega), qn_nat (by omega), qn_le (by omega) (by omega)]
      exact ⟨hs0, hab, hbl⟩
    · rw [ei 16 t e (by decide) (by decide), ei 17 t e (by decide) (by decide), ei 18 t e (by decide) (by decide)]
      exact v2 t (by omega)
  · rw [es]
    refine IB_up (IB_up (IB_up (IB_up (IB_up (IB_up (IB_49 hb 0) 15 _ ?_ ?_) 16 _ ?_ ?_) 17 _ ?_ ?_) 18 _ ?_ ?_) 19 _ ?_ ?_) 14 0 ?_ ?_
    all_goals (try rw [nI_toInt (by omega)])
    all_goals simp only [bl, bh]
    all_goals first | omega | (simp; done) | (simp; omega)
  · intro t ht h20
    rw [eS 20 (by omega)] at h20
    rw [nU_s] at ht
    have e : t ≠ n 7 := fun e => h20 (by rw [e]; exact fc (n 7) (Nat.le_refl _))
    rw [ei 16 t e (by decide) (by decide), eS 21 (by omega), eS 22 (by omega), eS 2 (by omega)]
    exact hr t (by omega) h20
  · intro t ht
    rw [nU_s] at ht
    rw [eS 20 (by omega)]
    exact fc t (by omega)
end C
