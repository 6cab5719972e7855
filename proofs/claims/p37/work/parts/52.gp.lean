/-! the bundle goes through: refuse, start, vary, exempt, plate, stop, lose, agree -/
section C
variable {ad : Nat → Nat → Nat} {S : PT} {T : CT} {σ : SG} {n : Nat → Nat} {μ : MU} {pl : Nat → Nat} {B E : Nat}
theorem lt_wk (H : DQ T σ n) {x : Int32} (h : 0 ≤ x ∧ x ≤ σ 23 0 - 1) : x.toNatClampNeg < n 8 := by
  obtain ⟨k, hk, rfl, hk2⟩ := wk_n H h
  rw [qn_nat hk2]; exact hk
theorem lt_th (H : DQ T σ n) {x : Int32} (h : 0 ≤ x ∧ x ≤ σ 14 0 - 1) : x.toNatClampNeg < n 7 := by
  obtain ⟨k, hk, rfl, hk2⟩ := th_n H h
  rw [qn_nat hk2]; exact hk
theorem q1v {P : Prop} {X : Int32} (h : iT (¬ P) 1 X = 0) : P ∧ X = 0 := by
  obtain ⟨a, b⟩ := q1 (by decide) h
  exact ⟨Classical.not_not.mp a, b⟩
theorem gp_refuse (H : GI T σ μ n pl B E) {x : Int32} (hq : q_refuse σ x = 0) : GI (uI T 810 x.toNatClampNeg 2) (u_refuse σ x) μ n pl B E :=
  gp_wk (v := 2) (gp_49 H 0) (lt_wk H.1 (q1v hq).1) (Or.inl ⟨rfl, rfl⟩) (by decide) (by decide)
theorem gp_start (H : GI T σ μ n pl B E) {x : Int32} (hq : q_start σ x = 0) : GI (uI T 810 x.toNatClampNeg 3) (u_start σ x) μ n pl B E :=
  gp_wk (v := 3) (gp_49 H 0) (lt_wk H.1 (q1v hq).1) (Or.inl ⟨rfl, rfl⟩) (by decide) (by decide)
theorem gp_vary (H : GI T σ μ n pl B E) {x c : Int32} (hq : q_vary σ x c = 0) : GI (uI (uI T 811 x.toNatClampNeg c) 812 x.toNatClampNeg (σ 35 x.toNatClampNeg + 1)) (u_vary σ x c) μ n pl B E := by
  have hx := lt_wk H.1 (q1v hq).1
  have hc := (q1 (by decide) (q1v hq).2).1
  rw [Classical.not_not] at hc
  have c1 := hc.1
  have c2 := hc.2
  rw [ile, I0] at c1
  rw [ile, show (3 : Int32).toInt = 3 from by decide] at c2
  exact gp_wk (gp_wk (gp_49 H 0) hx (Or.inr (Or.inl ⟨rfl, rfl⟩)) (by simp only [bl]; exact c1) (by simp only [bh]; exact c2)) hx (Or.inr (Or.inr (Or.inl ⟨rfl, rfl⟩))) (Ilo _) (by have := Ihi (σ 35 x.toNatClampNeg + 1); simp only [bh]; omega)
theorem gp_exempt (H : GI T σ μ n pl B E) {x : Int32} (hq : q_exempt σ x = 0) : GI (uI T 817 x.toNatClampNeg (iT (σ 38 x.toNatClampNeg = 0) 1 0)) (u_exempt σ x) μ n pl B E :=
  gp_wk (gp_49 H 0) (lt_wk H.1 (q1v hq).1) (Or.inr (Or.inr (Or.inr (Or.inr (Or.inr ⟨rfl, rfl⟩))))) iT01.1 iT01.2
theorem gp_plate (H : GI T σ μ n pl B E) {x : Int32} (hq : q_plate σ x = 0) : GI (uI T 816 x.toNatClampNeg (iT (σ 37 x.toNatClampNeg = 0) 1 0)) (u_plate σ x) μ n pl B E :=
  gp_wk (gp_49 H 0) (lt_wk H.1 (q1v hq).1) (Or.inr (Or.inr (Or.inr (Or.inr (Or.inl ⟨rfl, rfl⟩))))) iT01.1 iT01.2
theorem gp_stop (H : GI T σ μ n pl B E) {x : Int32} (hq : q_stop σ x = 0) : GI (uI (uI T 810 x.toNatClampNeg 4) 816 x.toNatClampNeg 0) (u_stop σ x) μ n pl B E :=
  gp_wk (v := 0) (gp_wk (v := 4) (gp_49 H 0) (lt_wk H.1 (q1v hq).1) (Or.inl ⟨rfl, rfl⟩) (by decide) (by decide)) (lt_wk H.1 (q1v hq).1) (Or.inr (Or.inr (Or.inr (Or.inr (Or.inl ⟨rfl, rfl⟩))))) (by decide) (by decide)
theorem gp_lose (H : GI T σ μ n pl B E) {x : Int32} (hq : q_lose σ x = 0) : GI (uI T 705 x.toNatClampNeg 0) (u_lose σ x) μ n pl B E := by
  obtain ⟨H, ⟨hd, hs⟩, hr, h4, hl, hta, htb, fa, fb, fc, fd, fe, ff, fg, fh, fi⟩ := H
  have eS : ∀ f, ¬ (f = 20 ∨ f = 49) → u_lose σ x f = σ f := fun f h => by unfold u_lose; rw [sg_o (by omega), sg_o (by omega)]
  have eI : ∀ F, ¬ (F = 705) → tI (uI T 705 x.toNatClampNeg 0) F = tI T F := fun F h => sg_o (σ := tI T) h
  have eP : ∀ F9, ¬ False → tP (uI T 705 x.toNatClampNeg 0) F9 = tP T F9 := fun _ _ => rfl
  have eN : ∀ F9, ¬ False → tN (uI T 705 x.toNatClampNeg 0) F9 = tN T F9 := fun _ _ => rfl
  have eR : ∀ F9, ¬ False → tR (uI T 705 x.toNatClampNeg 0) F9 = tR T F9 := fun _ _ => rfl
  have eA : tA (uI T 705 x.toNatClampNeg 0) = tA T := rfl
  have eJ : tJ (uI T 705 x.toNatClampNeg 0) = tJ T := rfl
  have eM : μ = μ := rfl
  have e20 : ∀ t, ¬ u_lose σ x 20 t = 0 → ¬ σ 20 t = 0 := by
    intro t h h0
    unfold u_lose at h
    by_cases e : t = x.toNatClampNeg
    · rw [e, up2_s] at h; exact h rfl
    · rw [up2_i _ _ e, up2_f _ _ _ _ (by decide)] at h; exact h h0
  refine ⟨p_lose H hq, ⟨(fun k hk => D1_c (fun F hF => by rw [eI F (by first | omega | exact not_false)]) (fun F hF => by rw [eP F (by first | omega | exact not_false)]) (fun f a b => eS f (by first | omega | exact not_false)) (hd k hk)), (DS_c (eI 508 (by first | omega | exact not_false)) (eS 7 (by first | omega | exact not_false)) hs)⟩, ?_, (fun p hp => D4_c (by rw [eJ]) (fun F hF => by rw [eI F (by first | omega | exact not_false)]) (by rw [eM]) (eS 24 (by first | omega | exact not_false)) (eS 42 (by first | omega | exact not_false)) (by rw [eS 46 (by first | omega | exact not_false)]) (by rw [eS 47 (by first | omega | exact not_false)]) (h4 p hp)), (DL_c (eI 201 (by first | omega | exact not_false)) (eP 200 (by first | omega | exact not_false)) (eN 12 (by first | omega | exact not_false)) eA eM hl), (DTa_c (fun F hF => eI F (by first | omega | exact not_false)) (fun F hF => eP F (by first | omega | exact not_false)) (fun f hf => eS f (by first | omega | exact not_false)) hta), (DTb_c (eI 1102 (by first | omega | exact not_false)) (eP 1101 (by first | omega | exact not_false)) (eN 20 (by first | omega | exact not_false)) (eR 20 (by first | omega | exact not_false)) htb), (FRa_c (fun f hf => eS f (by first | omega | exact not_false)) fa), (FRb_c (eS 2 (by first | omega | exact not_false)) (eS 12 (by first | omega | exact not_false)) fb), ?_, (FRd_c (fun f hf => eS f (by first | omega | exact not_false)) fd), (FRe_c (eS 13 (by first | omega | exact not_false)) fe), (FRf_c (eS 39 (by first | omega | exact not_false)) ff), (FRg_c (eS 45 (by first | omega | exact not_false)) fg), (FRh_c (eS 7 (by first | omega | exact not_false)) (eS 40 (by first | omega | exact not_false)) fh), (FRi_c (eS 46 (by first | omega | exact not_false)) fi)⟩
  · intro t ht h20
    rw [eS 16 (by omega), eS 21 (by omega), eS 22 (by omega), eS 2 (by omega)]
    exact hr t ht (e20 t h20)
  · intro t ht
    exact Classical.byContradiction (fun h => e20 t h (fc t ht))
theorem DV_39 {σ' : SG} (h : ∀ f, (f = 2 ∨ f = 5 ∨ f = 13 ∨ f = 16 ∨ f = 17 ∨ f = 18 ∨ f = 25 ∨ f = 26 ∨ f = 27 ∨ f = 42) → σ' f = σ f) (h39 : ∀ k, k < 24 → σ' 39 (25 * k) = 0) (D : DV σ n) : DV σ' n := by
  obtain ⟨v1, v2, v3, v4, v5, v6⟩ := D
  have hl : z_len σ' = z_len σ := z_len_c (fun j => by rw [h 2 (by omega)])
  unfold DV
  rw [hl, h 5 (by omega), h 13 (by omega), h 16 (by omega), h 17 (by omega), h 18 (by omega), h 25 (by omega), h 26 (by omega), h 27 (by omega), h 42 (by omega)]
  exact ⟨v1, v2, v3, v4, v5, h39⟩
theorem gp_agree (H : GI T σ μ n pl B E) {j k : Nat} (hj : j < n 8) (hk : k < n 8) (hjk : j ≠ k) {v : Int32} (hv0 : v = iT (σ 39 (24 * j + k) = 0) 1 0) {T' : CT} {σ' : SG}
    (eT : T' = uI (uI T 814 j (tI T 814 j ^^^ (1 <<< (nI k &&& 31)))) 814 k (tI T 814 k ^^^ (1 <<< (nI j &&& 31)))) (es : σ' = up2 (up2 (up2 σ 49 0 0) 39 (24 * j + k) v) 39 (24 * k + j) v) : GI T' σ' μ n pl B E := by
  obtain ⟨⟨h1, h9, h5, h8, h7, h3, hv, hb⟩, ⟨hd, hs⟩, hr, h4, hl, hta, htb, fa, fb, fc, fd, fe, ff, fg, fh, fi⟩ := H
  have h24 : n 8 ≤ 24 := h1.2.2.2.2.2.1
  have eS : ∀ f, ¬ (f = 39 ∨ f = 49) → σ' f = σ f := fun f h => by rw [es, sg_o (by omega), sg_o (by omega), sg_o (by omega)]
  have eI : ∀ F, ¬ (F = 814) → tI T' F = tI T F := fun F h => by rw [eT]; show up2 (up2 (tI T) 814 j _) 814 k _ F = _; rw [sg_o h, sg_o h]
  subst eT
  have eP : ∀ F9, ¬ False → tP (uI (uI T 814 j (tI T 814 j ^^^ (1 <<< (nI k &&& 31)))) 814 k (tI T 814 k ^^^ (1 <<< (nI j &&& 31)))) F9 = tP T F9 := fun _ _ => rfl
  have eN : ∀ F9, ¬ False → tN (uI (uI T 814 j (tI T 814 j ^^^ (1 <<< (nI k &&& 31)))) 814 k (tI T 814 k ^^^ (1 <<< (nI j &&& 31)))) F9 = tN T F9 := fun _ _ => rfl
  have eR : ∀ F9, ¬ False → tR (uI (uI T 814 j (tI T 814 j ^^^ (1 <<< (nI k &&& 31)))) 814 k (tI T 814 k ^^^ (1 <<< (nI j &&& 31)))) F9 = tR T F9 := fun _ _ => rfl
  have eA : tA (uI (uI T 814 j (tI T 814 j ^^^ (1 <<< (nI k &&& 31)))) 814 k (tI T 814 k ^^^ (1 <<< (nI j &&& 31)))) = tA T := rfl
  have eJ : tJ (uI (uI T 814 j (tI T 814 j ^^^ (1 <<< (nI k &&& 31)))) 814 k (tI T 814 k ^^^ (1 <<< (nI j &&& 31)))) = tJ T := rfl
  have eM : μ = μ := rfl
  have e39 : ∀ q, (q = 24 * j + k ∨ q = 24 * k + j → σ' 39 q = v) ∧ (¬ (q = 24 * j + k ∨ q = 24 * k + j) → σ' 39 q = σ 39 q) := by
    intro q
    rw [es]
    constructor
    · intro h
      by_cases e : q = 24 * k + j
      · rw [e, up2_s]
      · rw [up2_i _ _ e, h.resolve_right e, up2_s]
    · intro h
      rw [up2_i _ _ (fun e => h (Or.inr e)), up2_i _ _ (fun e => h (Or.inl e)), up2_f _ _ _ _ (by decide)]
  have hv1 : ¬ v = 0 ↔ σ 39 (24 * j + k) = 0 := by
    rw [hv0]
    by_cases e : σ 39 (24 * j + k) = 0
    · rw [iT_T e]; exact ⟨fun _ => e, fun _ => by decide⟩
    · rw [iT_F e]; exact ⟨fun h => absurd rfl h, fun h => absurd h e⟩
  have sym : σ 39 (24 * k + j) = 0 ↔ σ 39 (24 * j + k) = 0 := ⟨ff.2 k j (by omega) (by omega), ff.2 j k (by omega) (by omega)⟩
  have vb : 0 ≤ v.toInt ∧ v.toInt ≤ 1 := by rw [hv0]; exact iT01
  have bit : ∀ l, l < n 8 → D8a (uI (uI T 814 j (tI T 814 j ^^^ (1 <<< (nI k &&& 31)))) 814 k (tI T 814 k ^^^ (1 <<< (nI j &&& 31)))) σ' l := by
    intro l hl2 b
    by_cases el : l = k
    · subst el
      rw [tI_s, bit_xor, bit_1 (by omega), (h8 l hl2).2 b]
      by_cases eb : b = j
      · subst eb
        rw [(e39 _).1 (Or.inr rfl), hv1, ← sym]
        constructor
        · intro h
          refine ⟨by omega, Classical.byContradiction (fun h0 => (h.mp ⟨by omega, h0⟩) rfl)⟩
        · rintro ⟨-, h0⟩
          exact ⟨fun h => absurd h0 h.2, fun h => absurd rfl h⟩
      · by_cases hb24 : b < 24
        · rw [(e39 _).2 (by omega)]
          exact ⟨fun h => h.mpr eb, fun h => ⟨fun _ => eb, fun _ => h⟩⟩
        · exact ⟨fun h => absurd (h.mpr eb).1 hb24, fun h => absurd h.1 hb24⟩
    · rw [tI_i el]
      by_cases ej : l = j
      · subst ej
        rw [tI_s, bit_xor, bit_1 (by omega), (h8 l hl2).2 b]
        by_cases eb : b = k
        · subst eb
          rw [(e39 _).1 (Or.inl rfl), hv1]
          constructor
          · intro h
            refine ⟨by omega, Classical.byContradiction (fun h0 => (h.mp ⟨by omega, h0⟩) rfl)⟩
          · rintro ⟨-, h0⟩
            exact ⟨fun h => absurd h0 h.2, fun h => absurd rfl h⟩
        · by_cases hb24 : b < 24
          · rw [(e39 _).2 (by omega)]
            exact ⟨fun h => h.mpr eb, fun h => ⟨fun _ => eb, fun _ => h⟩⟩
          · exact ⟨fun h => absurd (h.mpr eb).1 hb24, fun h => absurd h.1 hb24⟩
      · rw [tI_i ej, (h8 l hl2).2 b]
        by_cases hb24 : b < 24
        · rw [(e39 _).2 (by omega)]
        · exact ⟨fun h => absurd h.1 hb24, fun h => absurd h.1 hb24⟩
  refine ⟨⟨(DN_c (by rw [eS 1 (by first | omega | exact not_false)]) (by rw [eS 14 (by first | omega | exact not_false)]) (by rw [eS 23 (by first | omega | exact not_false)]) (by rw [eS 40 (by first | omega | exact not_false)]) h1), (D9_d (fun F hF => eI F (by first | omega | exact not_false)) (fun F hF => eP F (by first | omega | exact not_false)) (fun k hk => eN k (by first | omega | exact not_false)) (fun k hk hk2 => eR k (by first | omega | exact not_false)) (by rw [eS 0 (by first | omega | exact not_false)]) h9), (fun j hj => D5_c (fun F hF _ _ => by rw [eI F (by first | omega | exact not_false)]) (fun F hF => by rw [eP F (by first | omega | exact not_false)]) (by rw [eN 15 (by first | omega | exact not_false)]) (by rw [eR 15 (by first | omega | exact not_false)]) (fun f a b _ => by rw [eS f (by first | omega | exact not_false)]) (h5 j hj)), fun l hl2 => ⟨D8_d ?_ ?_ ?_ ?_ (h8 l hl2).1, bit l hl2⟩, (fun t ht => D7_c (fun F hF => by rw [eI F (by first | omega | exact not_false)]) (fun F hF => by rw [eP F (by first | omega | exact not_false)]) (fun f a b => by rw [eS f (by first | omega | exact not_false)]) (eS 2 (by first | omega | exact not_false)) (h7 t ht)), (fun j i hj hi => D3_c (fun F hF => by rw [eI F (by first | omega | exact not_false)]) (by rw [eP 303 (by first | omega | exact not_false)]) (by rw [eS 12 (by first | omega | exact not_false)]) (by rw [eS 13 (by first | omega | exact not_false)]) (eS 41 (by first | omega | exact not_false)) (h3 j i hj (by rw [show z_len _ = z_len σ from z_len_c (fun j => by rw [eS 2 (by first | omega | exact not_false)])] at hi; exact hi))), DV_39 (fun f hf => eS f (by omega)) (fun q hq => by rw [(e39 _).2 (by omega)]; exact hv.2.2.2.2.2 q hq) hv, ?_⟩, ⟨(fun k hk => D1_c (fun F hF => by rw [eI F (by first | omega | exact not_false)]) (fun F hF => by rw [eP F (by first | omega | exact not_false)]) (fun f a b => eS f (by first | omega | exact not_false)) (hd k hk)), (DS_c (eI 508 (by first | omega | exact not_false)) (eS 7 (by first | omega | exact not_false)) hs)⟩, (DR_c (fun f hf => eS f (by first | omega | exact not_false)) hr), (fun p hp => D4_c (by rw [eJ]) (fun F hF => by rw [eI F (by first | omega | exact not_false)]) (by rw [eM]) (eS 24 (by first | omega | exact not_false)) (eS 42 (by first | omega | exact not_false)) (by rw [eS 46 (by first | omega | exact not_false)]) (by rw [eS 47 (by first | omega | exact not_false)]) (h4 p hp)), (DL_c (eI 201 (by first | omega | exact not_false)) (eP 200 (by first | omega | exact not_false)) (eN 12 (by first | omega | exact not_false)) eA eM hl), (DTa_c (fun F hF => eI F (by first | omega | exact not_false)) (fun F hF => eP F (by first | omega | exact not_false)) (fun f hf => eS f (by first | omega | exact not_false)) hta), (DTb_c (eI 1102 (by first | omega | exact not_false)) (eP 1101 (by first | omega | exact not_false)) (eN 20 (by first | omega | exact not_false)) (eR 20 (by first | omega | exact not_false)) htb), (FRa_c (fun f hf => eS f (by first | omega | exact not_false)) fa), (FRb_c (eS 2 (by first | omega | exact not_false)) (eS 12 (by first | omega | exact not_false)) fb), (FRc_c (eS 20 (by first | omega | exact not_false)) fc), (FRd_c (fun f hf => eS f (by first | omega | exact not_false)) fd), (FRe_c (eS 13 (by first | omega | exact not_false)) fe), ?_, (FRg_c (eS 45 (by first | omega | exact not_false)) fg), (FRh_c (eS 7 (by first | omega | exact not_false)) (eS 40 (by first | omega | exact not_false)) fh), (FRi_c (eS 46 (by first | omega | exact not_false)) fi)⟩
  · exact fun F hF h4 => by rw [eI F (by omega)]
  · exact fun F hF => by rw [eP F (by first | omega | exact not_false)]
  · exact fun f a b => by rw [eS f (by omega)]
  · unfold z_opens; rw [eS 13 (by omega)]
  · rw [es]; exact IB_up (IB_up (IB_49 hb 0) 39 _ vb.1 vb.2) 39 _ vb.1 vb.2
  · refine ⟨fun a b ha hb2 hn => ?_, fun a b ha hb2 h0 => ?_⟩
    · rw [(e39 _).2 (by omega)]; exact ff.1 a b ha hb2 hn
    · by_cases e : 24 * a + b = 24 * j + k ∨ 24 * a + b = 24 * k + j
      · rw [(e39 _).1 e] at h0
        rw [(e39 _).1 (by omega)]; exact h0
      · rw [(e39 _).2 e] at h0
        rw [(e39 _).2 (by omega)]; exact ff.2 a b ha hb2 h0
end C
