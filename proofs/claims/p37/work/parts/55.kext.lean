/-! extend -/
section C
variable {ad : Nat → Nat → Nat} {S : PT} {T : CT} {σ : SG} {n : Nat → Nat} {μ : MU} {pl : Nat → Nat} {B E : Nat}
theorem two_o (σ : SG) (k : Nat) {f : Nat} (h : f ≠ 31) : z_two σ k f = σ f := sg_o h
theorem two_last (σ : SG) (k : Nat) : z_last (z_two σ k) k = z_last σ k + 2 := by
  unfold z_last
  rw [two_o _ _ (by decide)]
  unfold z_two
  rw [up2_s, ieq]
  simp only [tadd, tsub, show (2 : Int32).toInt = 2 from by decide, show (1 : Int32).toInt = 1 from by decide]
  omega
theorem two_fm (σ : SG) {k : Nat} (h3 : σ 33 k = 3) (i : Nat) : z_fm σ k (iT (z_last σ k + 2 < z_today σ) (z_today σ) (z_last σ k + 2)) (¬ (1 : Int32) = 0) i ↔ (z_on (z_two σ k) i ∧ z_meet (z_two σ k) k i) := by
  have c : ¬ (1 : Int32) = 0 := by decide
  have t : z_today (z_two σ k) = z_today σ := by unfold z_today; rw [two_o _ _ (by decide)]
  have on : ∀ l, z_on (z_two σ k) l ↔ z_on σ l := fun l => by unfold z_on; rw [two_o _ _ (by decide)]
  have may : z_may (z_two σ k) k i ↔ z_may σ k i := by unfold z_may z_on; rw [two_o _ _ (by decide)]
  have near : z_near (z_two σ k) k i ↔ z_near σ k i := by unfold z_near; rw [two_o _ _ (by decide), two_o _ _ (by decide), two_o _ _ (by decide), two_o _ _ (by decide)]
  have ek : z_end (z_two σ k) k = iT (z_last σ k + 2 < z_today σ) (z_today σ) (z_last σ k + 2) := by
    unfold z_end
    rw [two_last, t, two_o _ _ (by decide)]
    by_cases h : z_last σ k + 2 < z_today σ
    · rw [iT_T h, iT_T ⟨h3, by rw [not_le32]; exact h⟩]
    · rw [iT_F h, iT_F (fun z => h (by rw [← not_le32]; exact z.2))]
  have ei : i ≠ k → z_end (z_two σ k) i = z_end σ i := by
    intro h
    unfold z_end z_last
    rw [t, two_o _ _ (show 33 ≠ 31 by decide), two_o _ _ (show 30 ≠ 31 by decide)]
    unfold z_two
    rw [up2_i _ _ h]
  unfold z_meet z_has z_fm
  rw [on, may, near, ek, two_o _ _ (show 30 ≠ 31 by decide), two_o _ _ (show 39 ≠ 31 by decide)]
  constructor
  · rintro ⟨a1, a2, a3, ⟨a4, a5⟩, a6, a7⟩
    exact ⟨a2 c, a3, fun e => a1 e.symm, ⟨by rw [ei a1]; exact a4, a5⟩, a6, a7⟩
  · rintro ⟨a2, a3, a1, ⟨a4, a5⟩, a6, a7⟩
    have a1' : i ≠ k := fun e => a1 e.symm
    exact ⟨a1', fun _ => a2, a3, ⟨by rw [← ei a1']; exact a4, a5⟩, a6, a7⟩
theorem two_met (σ : SG) {k : Nat} (h3 : σ 33 k = 3) {nW : Nat} (h : nW < 1000) : (z_first (z_fm σ k (iT (z_last σ k + 2 < z_today σ) (z_today σ) (z_last σ k + 2)) (¬ (1 : Int32) = 0)) nW 0 = -1) = ¬ z_met (z_two σ k) k nW := by
  rw [propext (first_no _ nW 0 (by omega))]
  apply propext
  unfold z_met aN
  constructor
  · rintro h ⟨i, hi, hp⟩
    exact h i (by omega) (by omega) ((two_fm σ h3 i).mpr hp)
  · intro h l _ hl hp
    exact h ⟨l, by omega, (two_fm σ h3 l).mp hp⟩
theorem gp_extend (H : GI T σ μ n pl B E) {k : Nat} (hk : k < n 8) {σ' : SG} (es : σ' = up2 (up2 (z_two σ k) 49 0 0) 36 k (σ 36 k - 1)) : GI (uI (uI T 813 k (σ 36 k - 1)) 809 k (z_last σ k + 2)) σ' μ n pl B E := by
  obtain ⟨⟨h1, h9, h5, h8, h7, h3, hv, hb⟩, ⟨hd, hs⟩, hr, h4, hl, hta, htb, fa, fb, fc, fd, fe, ff, fg, fh, fi⟩ := H
  have eS : ∀ f, ¬ (f = 31 ∨ f = 36 ∨ f = 49) → σ' f = σ f := fun f h => by rw [es, sg_o (by omega), sg_o (by omega), two_o _ _ (by omega)]
  have eI : ∀ F, ¬ (F = 809 ∨ F = 813) → tI (uI (uI T 813 k (σ 36 k - 1)) 809 k (z_last σ k + 2)) F = tI T F := fun F h => by show up2 (up2 (tI T) 813 k _) 809 k _ F = _; rw [sg_o (by omega), sg_o (by omega)]
  have eP : ∀ F9, ¬ False → tP (uI (uI T 813 k (σ 36 k - 1)) 809 k (z_last σ k + 2)) F9 = tP T F9 := fun _ _ => rfl
  have eN : ∀ F9, ¬ False → tN (uI (uI T 813 k (σ 36 k - 1)) 809 k (z_last σ k + 2)) F9 = tN T F9 := fun _ _ => rfl
  have eR : ∀ F9, ¬ False → tR (uI (uI T 813 k (σ 36 k - 1)) 809 k (z_last σ k + 2)) F9 = tR T F9 := fun _ _ => rfl
  have eA : tA (uI (uI T 813 k (σ 36 k - 1)) 809 k (z_last σ k + 2)) = tA T := rfl
  have eJ : tJ (uI (uI T 813 k (σ 36 k - 1)) 809 k (z_last σ k + 2)) = tJ T := rfl
  have eM : μ = μ := rfl
  have ei : ∀ f l, l ≠ k → f ≠ 49 → σ' f l = σ f l := fun f l h h49 => by rw [es, up2_i _ _ h, up2_f _ _ _ _ h49]; unfold z_two; rw [up2_i _ _ h]
  refine ⟨⟨(DN_c (by rw [eS 1 (by first | omega | exact not_false)]) (by rw [eS 14 (by first | omega | exact not_false)]) (by rw [eS 23 (by first | omega | exact not_false)]) (by rw [eS 40 (by first | omega | exact not_false)]) h1), (D9_d (fun F hF => eI F (by first | omega | exact not_false)) (fun F hF => eP F (by first | omega | exact not_false)) (fun k hk => eN k (by first | omega | exact not_false)) (fun k hk hk2 => eR k (by first | omega | exact not_false)) (by rw [eS 0 (by first | omega | exact not_false)]) h9), (fun j hj => D5_c (fun F hF _ _ => by rw [eI F (by first | omega | exact not_false)]) (fun F hF => by rw [eP F (by first | omega | exact not_false)]) (by rw [eN 15 (by first | omega | exact not_false)]) (by rw [eR 15 (by first | omega | exact not_false)]) (fun f a b _ => by rw [eS f (by first | omega | exact not_false)]) (h5 j hj)), fun l hl2 => ⟨?_, D8a_c (by rw [eI 814 (by omega)]) (eS 39 (by omega)) (h8 l hl2).2⟩, (fun t ht => D7_c (fun F hF => by rw [eI F (by first | omega | exact not_false)]) (fun F hF => by rw [eP F (by first | omega | exact not_false)]) (fun f a b => by rw [eS f (by first | omega | exact not_false)]) (eS 2 (by first | omega | exact not_false)) (h7 t ht)), (fun j i hj hi => D3_c (fun F hF => by rw [eI F (by first | omega | exact not_false)]) (by rw [eP 303 (by first | omega | exact not_false)]) (by rw [eS 12 (by first | omega | exact not_false)]) (by rw [eS 13 (by first | omega | exact not_false)]) (eS 41 (by first | omega | exact not_false)) (h3 j i hj (by rw [show z_len _ = z_len σ from z_len_c (fun j => by rw [eS 2 (by first | omega | exact not_false)])] at hi; exact hi))), (DV_c (fun f hf => eS f (by first | omega | exact not_false)) hv), ?_⟩, ⟨(fun k hk => D1_c (fun F hF => by rw [eI F (by first | omega | exact not_false)]) (fun F hF => by rw [eP F (by first | omega | exact not_false)]) (fun f a b => eS f (by first | omega | exact not_false)) (hd k hk)), (DS_c (eI 508 (by first | omega | exact not_false)) (eS 7 (by first | omega | exact not_false)) hs)⟩, (DR_c (fun f hf => eS f (by first | omega | exact not_false)) hr), (fun p hp => D4_c (by rw [eJ]) (fun F hF => by rw [eI F (by first | omega | exact not_false)]) (by rw [eM]) (eS 24 (by first | omega | exact not_false)) (eS 42 (by first | omega | exact not_false)) (by rw [eS 46 (by first | omega | exact not_false)]) (by rw [eS 47 (by first | omega | exact not_false)]) (h4 p hp)), (DL_c (eI 201 (by first | omega | exact not_false)) (eP 200 (by first | omega | exact not_false)) (eN 12 (by first | omega | exact not_false)) eA eM hl), (DTa_c (fun F hF => eI F (by first | omega | exact not_false)) (fun F hF => eP F (by first | omega | exact not_false)) (fun f hf => eS f (by first | omega | exact not_false)) hta), (DTb_c (eI 1102 (by first | omega | exact not_false)) (eP 1101 (by first | omega | exact not_false)) (eN 20 (by first | omega | exact not_false)) (eR 20 (by first | omega | exact not_false)) htb), (FRa_c (fun f hf => eS f (by first | omega | exact not_false)) fa), (FRb_c (eS 2 (by first | omega | exact not_false)) (eS 12 (by first | omega | exact not_false)) fb), (FRc_c (eS 20 (by first | omega | exact not_false)) fc), ?_, (FRe_c (eS 13 (by first | omega | exact not_false)) fe), (FRf_c (eS 39 (by first | omega | exact not_false)) ff), (FRg_c (eS 45 (by first | omega | exact not_false)) fg), (FRh_c (eS 7 (by first | omega | exact not_false)) (eS 40 (by first | omega | exact not_false)) fh), (FRi_c (eS 46 (by first | omega | exact not_false)) fi)⟩
  · have ho : z_opens σ' (nI l) = z_opens σ (nI l) := by unfold z_opens; rw [eS 13 (by omega)]
    by_cases e : l = k
    · subst e
      have e9 : z_last σ' l = z_last σ l + 2 := by
        rw [← two_last]
        unfold z_last
        rw [es, up2_f _ _ _ _ (by decide), up2_f _ _ _ _ (by decide), up2_f _ _ _ _ (by decide), up2_f _ _ _ _ (by decide)]
      have e36 : σ' 36 l = σ 36 l - 1 := by rw [es, up2_s]
      obtain ⟨d0, d1, d2, d3, d4, d5, d6, d7, d8, d9, d10, d11, d12, d13, d15, d16, d17⟩ := (h8 l hl2).1
      unfold D8
      rw [e9, e36, ho, eS 24 (by omega), eS 25 (by omega), eS 26 (by omega), eS 27 (by omega), eS 28 (by omega), eS 29 (by omega), eS 30 (by omega), eS 32 (by omega), eS 33 (by omega), eS 34 (by omega), eS 35 (by omega), eS 37 (by omega), eS 38 (by omega),
        eI 800 (by omega), eI 801 (by omega), eI 803 (by omega), eI 804 (by omega), eI 805 (by omega), eI 806 (by omega), eI 807 (by omega), eI 808 (by omega), eI 810 (by omega), eI 811 (by omega), eI 812 (by omega), eI 815 (by omega), eI 816 (by omega), eI 817 (by omega)]
      exact ⟨d0, d1, d2, d3, d4, d5, d6, d7, d8, tI_s, d10, d11, d12, by rw [tI_o (by decide), tI_s], d15, d16, d17⟩
    · exact D8_c (T := T) (fun F hF => by rw [tI_i e, tI_i e]) (fun _ _ => rfl) (fun f a b => ei f l e (by omega)) ho (h8 l hl2).1
  · rw [es]
    unfold z_two
    refine IB_up (IB_49 (IB_31 hb _ _) 0) 36 k ?_ ?_
    · exact Ilo _
    · have := Ihi (σ 36 k - 1); simp only [bh]; omega
  · intro l hl2
    have e : l ≠ k := by omega
    rw [ei 34 l e (by decide), ei 35 l e (by decide), ei 36 l e (by decide), ei 37 l e (by decide), ei 38 l e (by decide)]
    exact fd l hl2
theorem k_extend (R : RC ad (VC n (z_len σ)) S T) (H : GI T σ μ n pl B E) (x : Int32) {mc ms : Nat} (h1 : 1 ≤ mc) (h6 : 6 ≤ ms) {post : Int32 → PT → Prop} {postX : String → PT → Prop}
    (hx1 : q_extend σ x (n 8) = 1 → postX "java/lang/IndexOutOfBoundsException" S) (hx2 : q_extend σ x (n 8) = 2 → postX "java/lang/IllegalStateException" S)
    (h : q_extend σ x (n 8) = 0 → ∀ S' T', RC ad (VC n (z_len σ)) S' T' → SM T T' → GI T' (u_extend σ x) μ n pl B E → post (z_last σ x.toNatClampNeg + 2) S') : w_X8_extend (ad 9 0) x S mc ms post postX := by
  unfold w_X8_extend w_X8_extend_b36
  unfold q_extend at hx1 hx2 h
  refine ⟨(RC_o9 R VC_9).1, ?_⟩
  rw [k_worksAt R H.1]
  by_cases hv : 0 ≤ x ∧ x ≤ σ 23 0 - 1
  · rw [iT_T hv]
    obtain ⟨k, hk, rfl, hk2⟩ := wk_n H.1 hv
    rw [iT_F (show ¬ ¬ _ from fun z => z hv)] at h hx2
    rw [qn_nat hk2] at h hx2 ⊢
    refine ⟨fun e => (by cases e), fun a e => ?_⟩
    cases e
    obtain ⟨-, -, -, -, -, -, -, -, -, d9, d10, -, -, d13, -⟩ := (H.1.2.2.2.1 k hk).1
    have o8 := RC_o8 R (VC_8 (len := z_len σ) hk)
    have g10 : gI S 810 (ad 8 k) = σ 33 k := by rw [o8.2.2.2.2.2.2.2.2.2.2.2.1, d10]
    have g13 : gI S 813 (ad 8 k) = σ 36 k := by rw [o8.2.2.2.2.2.2.2.2.2.2.2.2.2.2.1, d13]
    have g09 : gI S 809 (ad 8 k) = z_last σ k := by rw [o8.2.2.2.2.2.2.2.2.2.2.1, d9]
    have i1 : (1 ≤ σ 36 k) = ¬ σ 36 k ≤ 0 := by rw [ile, ile, I0, show (1 : Int32).toInt = 1 from by decide]; exact propext (by omega)
    have bad : (¬ σ 33 k = 3 ∨ σ 36 k ≤ 0) → 0 ≤ mc ∧ 0 ≤ ms ∧ 0 + 1 ≤ mc ∧ 0 + 6 ≤ ms ∧ postX "java/lang/IllegalStateException" S := fun hn => ⟨by omega, by omega, by omega, by omega, hx2 (iT_T hn)⟩
    refine ⟨o8.1, ?_⟩
    rw [g10, g13, i1]
    refine ⟨fun h3 => bad (Or.inl h3), fun h3 => ⟨fun h0 => ⟨(RC_o9 R VC_9).1, ?_⟩, fun h0 => bad (Or.inr (Classical.not_not.mp h0))⟩⟩
    rw [k_today R H.1]
    refine ⟨(RC_o9 R VC_9).1, ?_⟩
    rw [g09, if_lt32]
    have hno : ¬ (¬ σ 33 k = 3 ∨ σ 36 k ≤ 0) := fun z => z.elim (fun y => y h3) h0
    rw [iT_F hno] at h hx2
    refine k_firstMet R H.1 hk _ 1 (i := 0) (by decide) _ ?_
    have h24 : n 8 ≤ 24 := H.1.1.2.2.2.2.2.1
    rw [Nat.sub_zero, two_met σ h3 (show n 8 < 1000 by omega)]
    refine ⟨fun hm => ⟨o8.1, ?_⟩, fun hm => ⟨by omega, by omega, hx2 (iT_T (Classical.not_not.mp hm))⟩⟩
    rw [g13]
    refine RC_uI R (VC_8 hk) 13 rfl (by decide) (by decide) (fun S1 R1 => ?_)
    have e1 : gI S1 809 (ad 8 k) = z_last σ k := by
      have o := (RC_o8 R1 (VC_8 (len := z_len σ) hk)).2.2.2.2.2.2.2.2.2.2.1
      rw [o, tI_o (by decide), d9]
    rw [e1]
    refine RC_uI R1 (VC_8 hk) 9 rfl (by decide) (by decide) (fun S2 R2 => ?_)
    have e2 : gI S2 809 (ad 8 k) = z_last σ k + 2 := by
      have o := (RC_o8 R2 (VC_8 (len := z_len σ) hk)).2.2.2.2.2.2.2.2.2.2.1
      rw [o, tI_s]
    rw [e2]
    exact h (iT_F hm) S2 _ R2 ⟨rfl, rfl, rfl⟩ (gp_extend H hk (by unfold u_extend; rw [qn_nat hk2]))
  · rw [iT_F hv]
    exact ⟨fun _ => ⟨by omega, by omega, hx1 (iT_T hv)⟩, fun a e => (by cases e)⟩
end C
