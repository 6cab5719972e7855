/-! surface -/
section C
variable {ad : Nat → Nat → Nat} {S : PT} {T : CT} {σ : SG} {n len : Nat → Nat} {μ : MU} {pl : Nat → Nat} {B E : Nat}
theorem RC_uO6 (R : RC ad (VC n len) S T) (W : WJ (VC n len) T) {Q : Nat → PT → Prop}
    (c : ∀ q S', RC (up2 ad 6 (n 6) q) (Vn (VC n len) 6 (n 6)) S' (uN T 6 (n 6)) → WJ (Vn (VC n len) 6 (n 6)) (uN T 6 (n 6)) → Q q S') : ∀ (q : Nat) (S' : PT), gK S q = 0 → S' = nO S q 6 → Q q S' := by
  intro q S' hq e
  subst e
  have hno : ¬ VC n len 6 (n 6) := not_VC (by omega)
  exact c q _ (RC_nO R W.1 hq hno (by decide) (by decide)) (WJ_nO W hno (by decide))
/-- the telling N: street s, metre y, by whom, on which day -/
def y_tel (T : CT) (N s : Nat) (y : Int32) (w : Option Nat) (d : Int32) : CT := uI (uP (uI (uP (uN T 6 N) 600 N (some s)) 601 N y) 602 N w) 603 N d
theorem tel_I (T : CT) (N s : Nat) (y : Int32) (w : Option Nat) (d : Int32) {F : Nat} (h : ¬ F / 100 = 6) : tI (y_tel T N s y w d) F = tI T F := by
  unfold y_tel
  rw [tI_of (by omega), tI_uP, tI_of (by omega), tI_uP, tI_N h]
theorem tel_P (T : CT) (N s : Nat) (y : Int32) (w : Option Nat) (d : Int32) {F : Nat} (h : ¬ F / 100 = 6) : tP (y_tel T N s y w d) F = tP T F := by
  unfold y_tel
  rw [tP_uI, tP_of (by omega), tP_uI, tP_of (by omega), tP_N h]
theorem tel_Ii (T : CT) (N s : Nat) (y : Int32) (w : Option Nat) (d : Int32) {F i : Nat} (h : i ≠ N) : tI (y_tel T N s y w d) F i = tI T F i := by
  unfold y_tel
  rw [tI_i h, tI_uP, tI_i h, tI_uP, tI_Ni h]
theorem tel_Pi (T : CT) (N s : Nat) (y : Int32) (w : Option Nat) (d : Int32) {F i : Nat} (h : i ≠ N) : tP (y_tel T N s y w d) F i = tP T F i := by
  unfold y_tel
  rw [tP_uI, tP_i h, tP_uI, tP_i h, tP_Ni h]
theorem tel_s (T : CT) (N s : Nat) (y : Int32) (w : Option Nat) (d : Int32) : tP (y_tel T N s y w d) 600 N = some s ∧ tI (y_tel T N s y w d) 601 N = y ∧ tP (y_tel T N s y w d) 602 N = w ∧ tI (y_tel T N s y w d) 603 N = d := by
  unfold y_tel
  refine ⟨?_, ?_, ?_, ?_⟩ <;> simp only [tI_uP, tI_uR, tP_uI, tP_uR, tR_uI, tR_uP, tR_uN, tN_uI, tN_uP, tN_uR, tN_uN, tJ_uI, tJ_uP, tJ_uR, tJ_N, tA_uI, tA_uP, tA_uR, tA_uN, tB_uI, tB_uP, tB_uR, tB_uN, tI_s, tI_o, tP_s, tP_o, tI_Ns, tP_Ns, ne_eq, Nat.reduceEqDiff, Nat.reduceDiv, Nat.reduceMul, Nat.reduceAdd, not_false_eq_true]
theorem tel_x (T : CT) (N s : Nat) (y : Int32) (w : Option Nat) (d : Int32) : tN (y_tel T N s y w d) = tN T ∧ tR (y_tel T N s y w d) = tR T ∧ tJ (y_tel T N s y w d) = tJ T ∧ tA (y_tel T N s y w d) = tA T := by
  unfold y_tel
  refine ⟨?_, ?_, ?_, ?_⟩ <;> simp only [tI_uP, tI_uR, tP_uI, tP_uR, tR_uI, tR_uP, tR_uN, tN_uI, tN_uP, tN_uR, tN_uN, tJ_uI, tJ_uP, tJ_uR, tJ_N, tA_uI, tA_uP, tA_uR, tA_uN, tB_uI, tB_uP, tB_uR, tB_uN, tI_s, tI_o, tP_s, tP_o, tI_Ns, tP_Ns, ne_eq, Nat.reduceEqDiff, Nat.reduceDiv, Nat.reduceMul, Nat.reduceAdd, not_false_eq_true]
theorem today_b (hb : IB σ) : 0 ≤ (z_today σ).toInt ∧ (z_today σ).toInt ≤ 416 := by
  have b0 := (hb 0 0).1
  have b1 := (hb 0 0).2
  simp only [bl, bh] at b0 b1
  simp at b0
  unfold z_today
  rw [tdiv b0 (by decide), show (24 : Int32).toInt = 24 from by decide]
  omega
theorem g_surface (H : GI T σ μ n pl B E) (h512 : n 6 < 512) {s : Nat} (hs0 : s < n 5) {σ' : SG} (es : σ' = up2 (up2 (up2 σ 49 0 0) 6 s (z_today σ)) 7 s (σ 40 0)) {T' : CT}
    (L : TL (y_tel (uI (uI T 507 s (z_today σ)) 508 s (nI (n 6))) (n 6) s (-1) none (z_today σ)) T' (n 6)) : GI T' σ' μ (nU n 6) pl B E := by
  obtain ⟨⟨h1, h9, h5, h8, h7, h3, hv, hb⟩, ⟨hd, hs⟩, hr, h4, hl, hta, htb, fa, fb, fc, fd, fe, ff, fg, fh, fi⟩ := H
  obtain ⟨l1, l2, l3, l4, l5, l6, l7, l8, l9, l10⟩ := L
  obtain ⟨x1, x2, x3, x4⟩ := tel_x (uI (uI T 507 s (z_today σ)) 508 s (nI (n 6))) (n 6) s (-1) none (z_today σ)
  obtain ⟨s1, s2, s3, s4⟩ := tel_s (uI (uI T 507 s (z_today σ)) 508 s (nI (n 6))) (n 6) s (-1) none (z_today σ)
  have e40 : σ 40 0 = nI (n 1) := h1.2.2.2.2.2.2.1
  have n16 : n 1 ≤ n 6 := h1.2.2.2.2.2.2.2.1
  have eS : ∀ g, ¬ (g = 6 ∨ g = 7 ∨ g = 49) → σ' g = σ g := fun g h => by rw [es, sg_o (by omega), sg_o (by omega), sg_o (by omega)]
  have eI : ∀ F, ¬ (F = 507 ∨ F = 508 ∨ F / 100 = 6 ∨ F = 1100 ∨ F = 1102) → tI T' F = tI T F := fun F h => by
    rw [l1 F (by omega), tel_I _ _ _ _ _ _ (by omega), tI_of (by omega), tI_of (by omega)]
  have eP : ∀ F, ¬ (F / 100 = 6) → tP T' F = tP T F := fun F h => by rw [l2, tel_P _ _ _ _ _ _ h, tP_uI, tP_uI]
  have eN : ∀ k, ¬ (k = 20) → tN T' k = tN T k := fun k h => by rw [l3 k h, x1, tN_uI, tN_uI]
  have eR : ∀ k, ¬ (k = 20) → tR T' k = tR T k := fun k h => by rw [l4 k h, x2, tR_uI, tR_uI]
  have eJ : tJ T' = tJ T := by rw [l5, x3, tJ_uI, tJ_uI]
  have eA : tA T' = tA T := by rw [l6, x4, tA_uI, tA_uI]
  have eM : μ = μ := rfl
  have i507 : tI T' 507 s = z_today σ ∧ ∀ j, j ≠ s → tI T' 507 j = tI T 507 j := by
    rw [l1 507 (by omega), tel_I _ _ _ _ _ _ (by decide)]
    exact ⟨by rw [tI_o (by decide), tI_s], fun j hj => by rw [tI_i hj, tI_i hj]⟩
  have i508 : tI T' 508 s = nI (n 6) ∧ ∀ j, j ≠ s → tI T' 508 j = tI T 508 j := by
    rw [l1 508 (by omega), tel_I _ _ _ _ _ _ (by decide)]
    exact ⟨by rw [tI_s], fun j hj => by rw [tI_i hj, tI_i hj]⟩
  have pN : tP T' 600 (n 6) = some s ∧ tP T' 602 (n 6) = none := by rw [l2]; exact ⟨s1, s3⟩
  have po : ∀ F i, i ≠ n 6 → tP T' F i = tP T F i := fun F i h => by rw [l2, tel_Pi _ _ _ _ _ _ h, tP_uI, tP_uI]
  have io : ∀ F i, F / 100 = 6 → i ≠ n 6 → tI T' F i = tI T F i := fun F i hF h => by rw [l1 F (by omega), tel_Ii _ _ _ _ _ _ h, tI_of (by omega), tI_of (by omega)]
  have tb := today_b hb
  have ei : ∀ g j, j ≠ s → g ≠ 49 → σ' g j = σ g j := fun g j h h49 => by rw [es, up2_i _ _ h, up2_i _ _ h, up2_f _ _ _ _ h49]
  have s6 : σ' 6 s = z_today σ := by rw [es, up2_f _ _ _ _ (by decide), up2_s]
  have s7 : σ' 7 s = nI (n 1) := by rw [es, up2_s, e40]
  refine ⟨⟨?_, (D9_d (fun F hF => eI F (by first | omega | exact not_false)) (fun F hF => eP F (by first | omega | exact not_false)) (fun k hk => eN k (by first | omega | exact not_false)) (fun k hk hk2 => eR k (by first | omega | exact not_false)) (by rw [eS 0 (by first | omega | exact not_false)]) h9), ?_, (fun k hk => ⟨D8_c (fun F hF => by rw [eI F (by first | omega | exact not_false)]) (fun F hF => by rw [eP F (by first | omega | exact not_false)]) (fun f a b => by rw [eS f (by first | omega | exact not_false)]) (by unfold z_opens; rw [eS 13 (by first | omega | exact not_false)]) (h8 k hk).1, D8a_c (by rw [eI 814 (by first | omega | exact not_false)]) (eS 39 (by first | omega | exact not_false)) (h8 k hk).2⟩), (fun t ht => D7_c (fun F hF => by rw [eI F (by first | omega | exact not_false)]) (fun F hF => by rw [eP F (by first | omega | exact not_false)]) (fun f a b => by rw [eS f (by first | omega | exact not_false)]) (eS 2 (by first | omega | exact not_false)) (h7 t ht)), (fun j i hj hi => D3_c (fun F hF => by rw [eI F (by first | omega | exact not_false)]) (by rw [eP 303 (by first | omega | exact not_false)]) (by rw [eS 12 (by first | omega | exact not_false)]) (by rw [eS 13 (by first | omega | exact not_false)]) (eS 41 (by first | omega | exact not_false)) (h3 j i hj (by rw [show z_len _ = z_len σ from z_len_c (fun j => by rw [eS 2 (by first | omega | exact not_false)])] at hi; exact hi))), (DV_c (fun f hf => eS f (by first | omega | exact not_false)) hv), ?_⟩, ⟨(fun k hk => D1_c (fun F hF => by rw [eI F (by first | omega | exact not_false)]) (fun F hF => by rw [eP F (by first | omega | exact not_false)]) (fun f a b => eS f (by first | omega | exact not_false)) (hd k hk)), ?_⟩, (DR_c (fun f hf => eS f (by first | omega | exact not_false)) hr), (fun p hp => D4_c (by rw [eJ]) (fun F hF => by rw [eI F (by first | omega | exact not_false)]) (by rw [eM]) (eS 24 (by first | omega | exact not_false)) (eS 42 (by first | omega | exact not_false)) (by rw [eS 46 (by first | omega | exact not_false)]) (by rw [eS 47 (by first | omega | exact not_false)]) (h4 p hp)), (DL_c (eI 201 (by first | omega | exact not_false)) (eP 200 (by first | omega | exact not_false)) (eN 12 (by first | omega | exact not_false)) eA eM hl), ?_, ?_, ?_, (FRb_c (eS 2 (by first | omega | exact not_false)) (eS 12 (by first | omega | exact not_false)) fb), (FRc_c (eS 20 (by first | omega | exact not_false)) fc), (FRd_c (fun f hf => eS f (by first | omega | exact not_false)) fd), (FRe_c (eS 13 (by first | omega | exact not_false)) fe), (FRf_c (eS 39 (by first | omega | exact not_false)) ff), (FRg_c (eS 45 (by first | omega | exact not_false)) fg), ?_, (FRi_c (eS 46 (by first | omega | exact not_false)) fi)⟩
  · obtain ⟨a1, a2, a3, a4, a5, a6, a7, a8, a9⟩ := h1
    unfold DN
    rw [eS 1 (by omega), eS 14 (by omega), eS 23 (by omega), eS 40 (by omega), nU_s]
    exact ⟨a1, a2, a3, a4, a5, a6, a7, show n 1 ≤ n 6 + 1 by omega, by omega⟩
  · intro j hj
    by_cases e : j = s
    · subst e
      obtain ⟨d0, d1, d2, d3, d4, d5, d6, d7, d8, d9, d10, d11⟩ := h5 j hj
      have el : z_len σ' j = z_len σ j := by unfold z_len; rw [eS 2 (by omega)]
      unfold D5
      rw [s6, i507.1, el, eS 3 (by omega), eS 4 (by omega), eS 5 (by omega), eS 8 (by omega), eS 9 (by omega), eS 10 (by omega), eI 500 (by omega), eI 501 (by omega), eI 502 (by omega), eI 505 (by omega), eI 506 (by omega), eI 510 (by omega), eI 511 (by omega), eP 503 (by omega), eP 504 (by omega), eN 15 (by omega), eR 15 (by omega)]
      exact ⟨d0, d1, d2, d3, d4, d5, d6, rfl, d8, d9, d10, d11⟩
    · refine D5_c (T := T) (fun F hF h1 h2 => ?_) (fun F hF => by rw [eP F (by omega)]) (by rw [eN 15 (by omega)]) (by rw [eR 15 (by omega)]) (fun f p q _ => ei f j e (by omega)) (h5 j hj)
      by_cases e7 : F = 507
      · rw [e7]; exact i507.2 j e
      · rw [eI F (by omega)]
  · rw [es]
    refine IB_up (IB_up (IB_49 hb 0) 6 s ?_ ?_) 7 s ?_ ?_
    · simp only [bl]; simp; omega
    · simp only [bh]; omega
    · rw [e40, nI_toInt (by omega)]; simp only [bl]; simp
    · rw [e40, nI_toInt (by omega)]; simp only [bh]; omega
  · intro j k hj hk
    replace hk : k < n 1 := hk
    by_cases e : j = s
    · subst e
      have hp := hta.1 k hk
      rw [i508.1, s7, qn_le (by omega) (by omega), qn_le (by omega) (by omega)]
      omega
    · rw [i508.2 j e, ei 7 j e (by decide)]
      exact hs j k hj hk
  · obtain ⟨t1, t2, t3, t4, t5⟩ := hta
    refine ⟨fun k hk => by rw [nU_s]; have := t1 k hk; omega, t2, fun k hk => ?_, fun i hi => ?_, fun j hj => ?_⟩
    · have hp := t1 k hk
      rw [eS 41 (by omega), eS 42 (by omega), eS 43 (by omega), po 600 _ (by omega), io 601 _ rfl (by omega), po 602 _ (by omega), io 603 _ rfl (by omega)]
      exact t3 k hk
    · rw [nU_s] at hi
      by_cases e : i = n 6
      · rw [e]
        exact Or.inr ⟨pN.2, s, hs0, pN.1, by rw [i508.1, qn_le (by omega) (by omega)]; omega⟩
      · rcases t4 i (by omega) with h | ⟨ha, j, hj, hb2, hc⟩
        · exact Or.inl h
        · refine Or.inr ⟨by rw [po 602 i e]; exact ha, j, hj, by rw [po 600 i e]; exact hb2, ?_⟩
          by_cases ej : j = s
          · rw [ej, i508.1, qn_le (by omega) (by omega)]; omega
          · rw [i508.2 j ej]; exact hc
    · by_cases ej : j = s
      · rw [ej]
        exact Or.inr ⟨n 6, by rw [nU_s]; omega, i508.1, pN.2, pN.1⟩
      · rw [i508.2 j ej]
        rcases t5 j hj with h | ⟨i, hi, ha, hb2, hc⟩
        · exact Or.inl h
        · exact Or.inr ⟨i, by rw [nU_s]; omega, ha, by rw [po 602 i (by omega)]; exact hb2, by rw [po 600 i (by omega)]; exact hc⟩
  · refine ⟨by rw [eP 1101 (by omega)]; exact htb.1, by rw [nU_s]; exact l7, fun _ => ?_⟩
    rw [nU_s]
    exact ⟨l8, l9, l10⟩
  · intro j hj hj6
    have e : j ≠ s := by
      replace hj : n 5 ≤ j := hj
      omega
    rw [ei 6 j e (by decide), ei 7 j e (by decide), eS 8 (by omega), eS 10 (by omega)]
    exact fa j hj hj6
  · intro j
    rw [eS 40 (by omega)]
    by_cases e : j = s
    · rw [e, s7, e40, qn_le (by omega) (by omega)]; exact Nat.le_refl _
    · rw [ei 7 j e (by decide)]; exact fh j
theorem k_surface {e0 m0 : Nat} (R : RC ad (VC n (z_len σ)) S T) (W : WJ (VC n (z_len σ)) T) (H : GI T σ μ n pl B E) (h512 : n 6 < 512) (he1 : n 6 = 0 → ad 20 0 = e0) (he2 : 0 < n 6 → ad 20 0 ≠ e0) (x : Int32) {mc ms : Nat} (h1 : 60 ≤ mc) (h6 : 2000 ≤ ms) {post : Int32 → PT → Prop} {postX : String → PT → Prop}
    (hx1 : q_surface σ x = 1 → postX "java/lang/IndexOutOfBoundsException" S) (hx2 : q_surface σ x = 2 → postX "java/lang/IllegalStateException" S)
    (h : q_surface σ x = 0 → ∀ ad' S' T', RC ad' (VC (nU n 6) (z_len σ)) S' T' → WJ (VC (nU n 6) (z_len σ)) T' → (∀ k i, k ≠ 6 → k ≠ 20 → ad' k i = ad k i) → ad' 20 0 ≠ e0 → tN T' 12 = tN T 12 → GI T' (u_surface σ x) μ (nU n 6) pl B E → post (z_today σ + 99) S') : w_X8_surface e0 m0 (ad 9 0) x S mc ms post postX := by
  have Hb := H.1.2.2.2.2.2.2.2
  unfold w_X8_surface
  unfold q_surface at hx1 hx2 h
  refine ⟨(RC_o9 R VC_9).1, ?_⟩
  rw [k_streetAt R H.1]
  by_cases hv : 0 ≤ x ∧ x ≤ σ 1 0 - 1
  · rw [iT_T hv]
    obtain ⟨s, hs, rfl, hs2⟩ := st_n H.1 hv
    rw [iT_F (show ¬ ¬ _ from fun z => z hv)] at h hx2
    rw [qn_nat hs2] at h hx2 ⊢
    refine ⟨fun e => (by cases e), fun a4 e4 => ?_⟩
    cases e4
    refine ⟨(RC_o5 R (VC_5 hs)).1, ?_⟩
    refine k_hasOpenMetre R H.1 hs ?_
    rw [bI_0, Classical.not_not]
    refine ⟨fun ho => ?_, fun ho => ⟨by omega, by omega, hx2 (iT_T ho)⟩⟩
    have h9 := h (iT_F (fun z => z ho))
    refine ⟨(RC_o9 R VC_9).1, ?_⟩
    rw [k_today R H.1]
    refine ⟨(RC_o5 R (VC_5 hs)).1, ?_⟩
    refine RC_uI R (VC_5 hs) 7 rfl (by decide) (by decide) (fun S1 R1 => ?_)
    have p908 : tP T 908 0 = some 0 := H.1.2.1.2.2.2.2.2.2.2.2.2.1
    have o91 := RC_o9 R1 (VC_9 (n := n) (len := z_len σ))
    have o11 := RC_o11 R1 (VC_11 (n := n) (len := z_len σ))
    have g908 : gP S1 908 (ad 9 0) = some (ad 11 0) := by
      rw [o91.2.2.2.2.2.2.2.2.2.1, tP_uI, p908]; rfl
    refine ⟨o91.1, _, g908, o11.1, ?_⟩
    unfold w_Jx4a65c_size_8abf5
    refine ⟨o11.1, (RC_o5 R1 (VC_5 hs)).1, ?_⟩
    have hsz : gI S1 1102 (ad 11 0) = nI (n 6) := by
      rw [o11.2.2.2, tI_o (by decide)]; exact H.2.2.2.2.2.2.1.2.1
    rw [hsz]
    refine RC_uI R1 (VC_5 hs) 8 rfl (by decide) (by decide) (fun S2 R2 => ⟨by omega, by omega, ?_⟩)
    refine RC_uO6 R2 (WJ_uI (WJ_uI W)) (fun q S3 R3 W3 => ?_)
    have e7 : ∀ k i, k ≠ 6 → up2 ad 6 (n 6) q k i = ad k i := fun k i hk => up2_f _ _ _ _ hk
    have eq7 : up2 ad 6 (n 6) q 6 (n 6) = q := up2_s _ _ _ _
    generalize up2 ad 6 (n 6) q = A at *
    have v6 : Vn (VC n (z_len σ)) 6 (n 6) 6 (n 6) := Or.inr ⟨rfl, rfl⟩
    have v5 : Vn (VC n (z_len σ)) 6 (n 6) 5 s := Or.inl hs
    rw [← e7 5 s (by decide), ← e7 9 0 (by decide), ← eq7]
    have g507 : gI S3 507 (A 5 s) = z_today σ := by
      rw [(RC_o5 R3 v5).2.2.2.2.2.2.2.2.1, tI_N (by decide)]
      simp only [tI_uP, tI_uR, tP_uI, tP_uR, tR_uI, tR_uP, tR_uN, tN_uI, tN_uP, tN_uR, tN_uN, tJ_uI, tJ_uP, tJ_uR, tJ_N, tA_uI, tA_uP, tA_uR, tA_uN, tB_uI, tB_uP, tB_uR, tB_uN, tI_s, tI_o, tP_s, tP_o, tI_Ns, tP_Ns, ne_eq, Nat.reduceEqDiff, Nat.reduceDiv, Nat.reduceMul, Nat.reduceAdd, not_false_eq_true]
    rw [g507]
    unfold w_X5_init
    refine ⟨(RC_o6 R3 v6).1, ?_⟩
    refine RC_uP R3 v6 0 rfl (by decide) (by decide) (some s) rfl (fun S4 R4 => ?_)
    refine RC_uI R4 v6 1 rfl (by decide) (by decide) (fun S5 R5 => ?_)
    refine RC_uP R5 v6 2 rfl (by decide) (by decide) none rfl (fun S6 R6 => ?_)
    refine RC_uI R6 v6 3 rfl (by decide) (by decide) (fun S7 R7 => ?_)
    have W7 : WJ (Vn (VC n (z_len σ)) 6 (n 6)) (y_tel (uI (uI T 507 s (z_today σ)) 508 s (nI (n 6))) (n 6) s (-1) none (z_today σ)) := by
      unfold y_tel
      exact WJ_uI (WJ_uP (WJ_uI (WJ_uP W3 (by decide) (fun t ht => by cases ht; exact v5))) (by decide) (fun t ht => by cases ht))
    have R7' : RC A (Vn (VC n (z_len σ)) 6 (n 6)) S7 (y_tel (uI (uI T 507 s (z_today σ)) 508 s (nI (n 6))) (n 6) s (-1) none (z_today σ)) := R7
    refine ⟨(RC_o9 R7' (Or.inl VC_9)).1, 1, 1024, by omega, by omega, ?_⟩
    obtain ⟨x1, x2, x3, x4⟩ := tel_x (uI (uI T 507 s (z_today σ)) 508 s (nI (n 6))) (n 6) s (-1) none (z_today σ)
    have D7 : DTb (y_tel (uI (uI T 507 s (z_today σ)) 508 s (nI (n 6))) (n 6) s (-1) none (z_today σ)) n := by
      obtain ⟨d1, d2, d3⟩ := H.2.2.2.2.2.2.1
      refine ⟨by rw [tel_P _ _ _ _ _ _ (by decide), tP_uI, tP_uI]; exact d1, by rw [tel_I _ _ _ _ _ _ (by decide), tI_o (by decide), tI_o (by decide)]; exact d2, ?_⟩
      rw [x1, x2, tN_uI, tN_uI, tR_uI, tR_uI]; exact d3
    refine k_tell R7' W7 rfl h512 D7 (by rw [tel_P _ _ _ _ _ _ (by decide), tP_uI, tP_uI]; exact p908) (fun hz => by rw [e7 20 0 (by decide)]; exact he1 hz) (fun hz => by rw [e7 20 0 (by decide)]; exact he2 hz) (by omega) (by omega) (fun ad' S' T' R' W' e' hne L => ?_)
    have G := g_surface (pl := pl) (B := B) (E := E) (μ := μ) H h512 hs rfl L
    have v5' : VC (nU n 6) (z_len σ) 5 s := hs
    rw [← e' 5 s (by decide)]
    have o5' := RC_o5 R' v5'
    have g5072 : gI S' 507 (ad' 5 s) = z_today σ := by
      rw [o5'.2.2.2.2.2.2.2.2.1, L.1 507 (by omega), tel_I _ _ _ _ _ _ (by decide)]
      simp only [tI_uP, tI_uR, tP_uI, tP_uR, tR_uI, tR_uP, tR_uN, tN_uI, tN_uP, tN_uR, tN_uN, tJ_uI, tJ_uP, tJ_uR, tJ_N, tA_uI, tA_uP, tA_uR, tA_uN, tB_uI, tB_uP, tB_uR, tB_uN, tI_s, tI_o, tP_s, tP_o, tI_Ns, tP_Ns, ne_eq, Nat.reduceEqDiff, Nat.reduceDiv, Nat.reduceMul, Nat.reduceAdd, not_false_eq_true]
    refine ⟨o5'.1, ?_⟩
    rw [g5072]
    have eu : u_surface σ (nI s) = up2 (up2 (up2 σ 49 0 0) 6 s (z_today σ)) 7 s (σ 40 0) := by unfold u_surface; rw [qn_nat hs2]
    refine h9 ad' S' T' R' W' (fun k i hk hk2 => (e' k i hk2).trans (e7 k i hk)) hne ?_ (by rw [eu]; exact G)
    rw [L.2.2.1 12 (by decide), x1, tN_uI, tN_uI]
  · rw [iT_F hv]
    exact ⟨fun _ => ⟨by omega, by omega, hx1 (iT_T hv)⟩, fun a e => by cases e⟩
end C
