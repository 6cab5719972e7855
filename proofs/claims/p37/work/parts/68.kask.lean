/-! ask -/
section C
variable {ad : Nat → Nat → Nat} {S : PT} {T : CT} {σ : SG} {n len : Nat → Nat} {μ : MU} {pl : Nat → Nat} {B E : Nat}
noncomputable def y_ask (T : CT) (N p s : Nat) (a b d k f m t : Int32) : CT :=
  uI (uR (uI (uI (uI (uI (uI (uI (uI (uI (uP (uI (uI (uN T 8 N) 800 N (nI N)) 801 N (nI p)) 802 N (some s)) 803 N k) 804 N t) 810 N (iT (k = 3) 1 0)) 805 N a) 806 N b) 807 N d) 808 N f) 809 N (f + m - 1)) 19 0 N (some N)) 905 0 (nI (N + 1))
theorem g_ask (H : GI T σ μ n pl B E) (hN : n 8 < 24) {p s a b : Nat} {d k f m : Int32} (hp : p < 5) (hs0 : s < n 5) (hab : a ≤ b) (hbl : b < z_len σ s) (hd1 : 0 ≤ d.toInt) (hd2 : d.toInt ≤ 300) (hk1 : 0 ≤ k.toInt) (hk2 : k.toInt ≤ 3) (hf1 : 0 ≤ f.toInt) (hf2 : f.toInt ≤ 999) {σ' : SG}
    (es : σ' = up2 (up2 (up2 (up2 (up2 (up2 (up2 (up2 (up2 (up2 (up2 (up2 σ 49 0 0) 24 (n 8) (nI p)) 25 (n 8) (nI s)) 26 (n 8) (nI a)) 27 (n 8) (nI b)) 28 (n 8) d) 29 (n 8) k) 30 (n 8) f) 31 (n 8) m) 32 (n 8) (z_today σ)) 33 (n 8) (iT (k = 3) 1 0)) 23 0 (nI (n 8 + 1))) :
    GI (y_ask T (n 8) p s (nI a) (nI b) d k f m (z_today σ)) σ' μ (nU n 8) pl B E := by
  obtain ⟨⟨h1, h9, h5, h8, h7, h3, hv, hb⟩, ⟨hd, hs⟩, hr, h4, hl, hta, htb, fa, fb, fc, fd, fe, ff, fg, fh, fi⟩ := H
  have h6 : n 5 ≤ 6 := h1.2.1
  have hl40 := (z_len_i hb s).2
  have eS : ∀ g, ¬ ((23 ≤ g ∧ g ≤ 33) ∨ g = 49) → σ' g = σ g := fun g h => by rw [es, sg_o (by omega), sg_o (by omega), sg_o (by omega), sg_o (by omega), sg_o (by omega), sg_o (by omega), sg_o (by omega), sg_o (by omega), sg_o (by omega), sg_o (by omega), sg_o (by omega), sg_o (by omega)]
  have eI : ∀ F, ¬ (F / 100 = 8 ∨ F = 905) → tI (y_ask T (n 8) p s (nI a) (nI b) d k f m (z_today σ)) F = tI T F := fun F h => by
    unfold y_ask
    rw [tI_of (by omega), tI_uR, tI_of (by omega), tI_of (by omega), tI_of (by omega), tI_of (by omega), tI_of (by omega), tI_of (by omega), tI_of (by omega), tI_of (by omega), tI_uP, tI_of (by omega), tI_of (by omega), tI_N (by omega)]
  have eP : ∀ F, ¬ (F / 100 = 8) → tP (y_ask T (n 8) p s (nI a) (nI b) d k f m (z_today σ)) F = tP T F := fun F h => by
    unfold y_ask
    rw [tP_uI, tP_uR, tP_uI, tP_uI, tP_uI, tP_uI, tP_uI, tP_uI, tP_uI, tP_uI, tP_of (by omega), tP_uI, tP_uI, tP_N (by omega)]
  have eR : ∀ l, ¬ (l = 19) → tR (y_ask T (n 8) p s (nI a) (nI b) d k f m (z_today σ)) l = tR T l := fun l h => by
    unfold y_ask
    rw [tR_uI, tR_of h]
    simp only [tR_uI, tR_uP, tR_uN]
  have eN : ∀ F9, ¬ False → tN (y_ask T (n 8) p s (nI a) (nI b) d k f m (z_today σ)) F9 = tN T F9 := fun l h => by unfold y_ask; simp only [tN_uI, tN_uP, tN_uR, tN_uN]
  have eA : tA (y_ask T (n 8) p s (nI a) (nI b) d k f m (z_today σ)) = tA T := by unfold y_ask; simp only [tA_uI, tA_uP, tA_uR, tA_uN]
  have eJ : tJ (y_ask T (n 8) p s (nI a) (nI b) d k f m (z_today σ)) = tJ T := by
    unfold y_ask
    rw [tJ_uI, tJ_uR]
    simp only [tJ_uI, tJ_uP]
    exact tJ_N (by decide)
  have eM : μ = μ := rfl
  have ei : ∀ g t, t ≠ n 8 → g ≠ 23 → g ≠ 49 → σ' g t = σ g t := fun g t h h23 h49 => by
    rw [es, up2_f _ _ _ _ h23, up2_i _ _ h, up2_i _ _ h, up2_i _ _ h, up2_i _ _ h, up2_i _ _ h, up2_i _ _ h, up2_i _ _ h, up2_i _ _ h, up2_i _ _ h, up2_i _ _ h, up2_f _ _ _ _ h49]
  have hlz : z_len σ' = z_len σ := z_len_c (fun j => by rw [eS 2 (by omega)])
  have s23 : σ' 23 0 = nI (n 8 + 1) := by rw [es, up2_s]
  have s24 : σ' 24 (n 8) = nI p := by rw [es]; simp only [up2_s, up2_f, ne_eq, Nat.reduceEqDiff, not_false_eq_true]
  have s25 : σ' 25 (n 8) = nI s := by rw [es]; simp only [up2_s, up2_f, ne_eq, Nat.reduceEqDiff, not_false_eq_true]
  have s26 : σ' 26 (n 8) = nI a := by rw [es]; simp only [up2_s, up2_f, ne_eq, Nat.reduceEqDiff, not_false_eq_true]
  have s27 : σ' 27 (n 8) = nI b := by rw [es]; simp only [up2_s, up2_f, ne_eq, Nat.reduceEqDiff, not_false_eq_true]
  have s28 : σ' 28 (n 8) = d := by rw [es]; simp only [up2_s, up2_f, ne_eq, Nat.reduceEqDiff, not_false_eq_true]
  have s29 : σ' 29 (n 8) = k := by rw [es]; simp only [up2_s, up2_f, ne_eq, Nat.reduceEqDiff, not_false_eq_true]
  have s30 : σ' 30 (n 8) = f := by rw [es]; simp only [up2_s, up2_f, ne_eq, Nat.reduceEqDiff, not_false_eq_true]
  have s31 : σ' 31 (n 8) = m := by rw [es]; simp only [up2_s, up2_f, ne_eq, Nat.reduceEqDiff, not_false_eq_true]
  have s32 : σ' 32 (n 8) = z_today σ := by rw [es]; simp only [up2_s, up2_f, ne_eq, Nat.reduceEqDiff, not_false_eq_true]
  have s33 : σ' 33 (n 8) = iT (k = 3) 1 0 := by rw [es]; simp only [up2_s, up2_f, ne_eq, Nat.reduceEqDiff, not_false_eq_true]
  have eo : ∀ F t, F / 100 = 8 → t ≠ n 8 → tI (y_ask T (n 8) p s (nI a) (nI b) d k f m (z_today σ)) F t = tI T F t := fun F t hF h => by
    unfold y_ask
    rw [tI_o (by omega), tI_uR, tI_i h, tI_i h, tI_i h, tI_i h, tI_i h, tI_i h, tI_i h, tI_i h, tI_uP, tI_i h, tI_i h, tI_Ni h]
  have epo : ∀ F t, t ≠ n 8 → tP (y_ask T (n 8) p s (nI a) (nI b) d k f m (z_today σ)) F t = tP T F t := fun F t h => by
    unfold y_ask
    rw [tP_uI, tP_uR, tP_uI, tP_uI, tP_uI, tP_uI, tP_uI, tP_uI, tP_uI, tP_uI, tP_i h, tP_uI, tP_uI, tP_Ni h]
  have hop : ∀ x, z_opens σ' x = z_opens σ x := fun x => by unfold z_opens; rw [eS 13 (by omega)]
  refine ⟨⟨?_, ?_, (fun j hj => D5_c (fun F hF _ _ => by rw [eI F (by first | omega | exact not_false)]) (fun F hF => by rw [eP F (by first | omega | exact not_false)]) (by rw [eN 15 (by first | omega | exact not_false)]) (by rw [eR 15 (by first | omega | exact not_false)]) (fun f a b _ => by rw [eS f (by first | omega | exact not_false)]) (h5 j hj)), ?_, (fun t ht => D7_c (fun F hF => by rw [eI F (by first | omega | exact not_false)]) (fun F hF => by rw [eP F (by first | omega | exact not_false)]) (fun f a b => by rw [eS f (by first | omega | exact not_false)]) (eS 2 (by first | omega | exact not_false)) (h7 t ht)), (fun j i hj hi => D3_c (fun F hF => by rw [eI F (by first | omega | exact not_false)]) (by rw [eP 303 (by first | omega | exact not_false)]) (by rw [eS 12 (by first | omega | exact not_false)]) (by rw [eS 13 (by first | omega | exact not_false)]) (eS 41 (by first | omega | exact not_false)) (h3 j i hj (by rw [show z_len _ = z_len σ from z_len_c (fun j => by rw [eS 2 (by first | omega | exact not_false)])] at hi; exact hi))), ?_, ?_⟩, ⟨(fun k hk => D1_c (fun F hF => by rw [eI F (by first | omega | exact not_false)]) (fun F hF => by rw [eP F (by first | omega | exact not_false)]) (fun f a b => eS f (by first | omega | exact not_false)) (hd k hk)), (DS_c (eI 508 (by first | omega | exact not_false)) (eS 7 (by first | omega | exact not_false)) hs)⟩, (DR_c (fun f hf => eS f (by first | omega | exact not_false)) hr), ?_, (DL_c (eI 201 (by first | omega | exact not_false)) (eP 200 (by first | omega | exact not_false)) (eN 12 (by first | omega | exact not_false)) eA eM hl), (DTa_c (fun F hF => eI F (by first | omega | exact not_false)) (fun F hF => eP F (by first | omega | exact not_false)) (fun f hf => eS f (by first | omega | exact not_false)) hta), (DTb_c (eI 1102 (by first | omega | exact not_false)) (eP 1101 (by first | omega | exact not_false)) (eN 20 (by first | omega | exact not_false)) (eR 20 (by first | omega | exact not_false)) htb), (FRa_c (fun f hf => eS f (by first | omega | exact not_false)) fa), (FRb_c (eS 2 (by first | omega | exact not_false)) (eS 12 (by first | omega | exact not_false)) fb), (FRc_c (eS 20 (by first | omega | exact not_false)) fc), ?_, ?_, ?_, (FRg_c (eS 45 (by first | omega | exact not_false)) fg), (FRh_c (eS 7 (by first | omega | exact not_false)) (eS 40 (by first | omega | exact not_false)) fh), (FRi_c (eS 46 (by first | omega | exact not_false)) fi)⟩
  · obtain ⟨a1, a2, a3, a4, a5, a6, a7⟩ := h1
    refine ⟨by rw [eS 1 (by omega)]; exact a1, a2, by rw [eS 14 (by omega)]; exact a3, a4, by rw [s23, nU_s], by rw [nU_s]; omega, ?_⟩
    rw [eS 40 (by omega)]; exact a7
  · obtain ⟨b0, b1, b2, b3, b4, b5, b6, b7, b8, b9, b10, b11, b12, b13, b14, b15, b16, b17, b18⟩ := h9
    unfold D9
    rw [eI 901 (by omega), eI 903 (by omega), eI 909 (by omega), eP 900 (by omega), eP 902 (by omega), eP 904 (by omega), eP 906 (by omega), eP 907 (by omega), eP 908 (by omega), eN 17 not_false, eN 18 not_false, eN 19 not_false, eN 16 not_false, eN 13 not_false, eR 17 (by omega), eR 18 (by omega), eR 16 (by omega), eS 0 (by omega), nU_s]
    refine ⟨b0, b1, tI_s, b3, b4, b5, b6, b7, b8, b9, b10, b11, b12, b13, b14, b15, fun i => ?_, b17, b18⟩
    have : tR (y_ask T (n 8) p s (nI a) (nI b) d k f m (z_today σ)) 19 0 i = if i = n 8 then some (n 8) else tR T 19 0 i := by
      unfold y_ask
      rw [tR_uI, tR_s]
      simp only [tR_uI, tR_uP, tR_uN]
    rw [this, b16]
    by_cases e : i = n 8
    · rw [if_pos e, iT_T (by omega), e]
    · rw [if_neg e]
      by_cases hi : i < n 8
      · rw [iT_T hi, iT_T (by omega)]
      · rw [iT_F hi, iT_F (by omega)]
  · intro t ht
    rw [nU_s] at ht
    by_cases e : t = n 8
    · rw [e]
      obtain ⟨f34, f35, f36, f37, f38⟩ := fd (n 8) (Nat.le_refl _)
      have ho : z_opens σ (nI (n 8)) = 0 := (cN_0 _).mpr (fun q hq h => by have := fe q (n 8) hq hN h; omega)
      refine ⟨?_, fun l => ?_⟩
      · unfold D8 z_last
        rw [s24, s25, s26, s27, s28, s29, s30, s31, s32, s33, eS 34 (by omega), eS 35 (by omega), eS 36 (by omega), eS 37 (by omega), eS 38 (by omega), f34, f35, f36, f37, f38, hop, ho, qn_nat (show s < 2147483648 by omega)]
        unfold y_ask
        refine ⟨?_, ?_, ?_, ?_, ?_, ?_, ?_, ?_, ?_, ?_, ?_, ?_, ?_, ?_, ?_, ?_, ?_⟩
        all_goals simp only [tI_uP, tI_uR, tP_uI, tP_uR, tR_uI, tR_uP, tR_uN, tN_uI, tN_uP, tN_uR, tN_uN, tJ_uI, tJ_uP, tJ_uR, tJ_N, tA_uI, tA_uP, tA_uR, tA_uN, tB_uI, tB_uP, tB_uR, tB_uN, tI_s, tI_o, tP_s, tP_o, tI_Ns, tP_Ns, ne_eq, Nat.reduceEqDiff, Nat.reduceDiv, Nat.reduceMul, Nat.reduceAdd, not_false_eq_true]
        rfl
      · have e814 : tI (y_ask T (n 8) p s (nI a) (nI b) d k f m (z_today σ)) 814 (n 8) = 0 := by unfold y_ask; simp only [tI_uP, tI_uR, tP_uI, tP_uR, tR_uI, tR_uP, tR_uN, tN_uI, tN_uP, tN_uR, tN_uN, tJ_uI, tJ_uP, tJ_uR, tJ_N, tA_uI, tA_uP, tA_uR, tA_uN, tB_uI, tB_uP, tB_uR, tB_uN, tI_s, tI_o, tP_s, tP_o, tI_Ns, tP_Ns, ne_eq, Nat.reduceEqDiff, Nat.reduceDiv, Nat.reduceMul, Nat.reduceAdd, not_false_eq_true]
        rw [e814, eS 39 (by omega)]
        refine ⟨fun h => absurd h (bit_0 l), fun h => absurd (ff.1 (n 8) l hN h.1 (Or.inl (Nat.le_refl _))) h.2⟩
    · have D := h8 t (by omega)
      exact ⟨D8_c (fun F hF => eo F t hF e) (fun F _ => epo F t e) (fun g q r => ei g t e (by omega) (by omega)) (hop _) D.1, D8a_c (eo 814 t rfl e) (eS 39 (by omega)) D.2⟩
  · obtain ⟨v1, v2, v3, v4, v5, v6⟩ := hv
    unfold DV
    rw [hlz, eS 5 (by omega), eS 13 (by omega), eS 16 (by omega), eS 17 (by omega), eS 18 (by omega), eS 42 (by omega), eS 39 (by omega)]
    refine ⟨v1, v2, fun t ht => ?_, fun q hq => ?_, v5, v6⟩
    · rw [nU_s] at ht
      by_cases e : t = n 8
      · rw [e, s25, s26, s27, qn_nat (by omega), qn_nat (by omega), qn_le (by omega) (by omega)]
        exact ⟨hs0, hab, hbl⟩
      · rw [ei 25 t e (by decide) (by decide), ei 26 t e (by decide) (by decide), ei 27 t e (by decide) (by decide)]
        exact v3 t (by omega)
    · rw [nU_s]
      have := v4 q hq
      omega
  · have tb : 0 ≤ (z_today σ).toInt ∧ (z_today σ).toInt ≤ 416 := by
      have b0 := (hb 0 0).1
      have b1 := (hb 0 0).2
      simp only [bl, bh] at b0 b1
      simp at b0
      unfold z_today
      rw [tdiv b0 (by decide), show (24 : Int32).toInt = 24 from by decide]
      omega
    have kb : 0 ≤ (iT (k = 3) 1 0 : Int32).toInt ∧ (iT (k = 3) 1 0 : Int32).toInt ≤ 1 := iT01
    have mb := Ihi m
    have mb2 := Ilo m
    rw [es]
    refine IB_up (IB_up (IB_up (IB_up (IB_up (IB_up (IB_up (IB_up (IB_up (IB_up (IB_up (IB_49 hb 0) 24 _ ?_ ?_) 25 _ ?_ ?_) 26 _ ?_ ?_) 27 _ ?_ ?_) 28 _ ?_ ?_) 29 _ ?_ ?_) 30 _ ?_ ?_) 31 _ ?_ ?_) 32 _ ?_ ?_) 33 _ ?_ ?_) 23 0 ?_ ?_
    all_goals (try rw [nI_toInt (by omega)])
    all_goals simp only [bl, bh]
    all_goals first | omega | (simp; done) | (simp; omega)
  · intro w hw
    have D := h4 w hw
    unfold D4 at *
    have ec : cN (z_fb σ' (nI w)) (n 1) = cN (z_fb σ (nI w)) (n 1) := cN_cong _ (fun q hq => by
      unfold z_fb
      have := hv.2.2.2.1 q hq
      rw [eS 42 (by omega), ei 24 _ (by omega) (by decide) (by decide)])
    rw [eJ, eI 401 (by omega), eI 402 (by omega), eI 403 (by omega), eS 46 (by omega), eS 47 (by omega), show nU n 8 1 = n 1 from rfl, ec]
    exact D
  · intro t ht
    rw [nU_s] at ht
    rw [eS 34 (by omega), eS 35 (by omega), eS 36 (by omega), eS 37 (by omega), eS 38 (by omega)]
    exact fd t (by omega)
  · intro q t hq ht h0
    rw [eS 13 (by omega)] at h0
    rw [nU_s]
    have := fe q t hq ht h0
    omega
  · refine ⟨fun x y hx hy hn => ?_, fun x y hx hy h0 => ?_⟩
    · rw [nU_s] at hn
      rw [eS 39 (by omega)]
      exact ff.1 x y hx hy (by omega)
    · rw [eS 39 (by omega)] at h0 ⊢
      exact ff.2 x y hx hy h0
end C
