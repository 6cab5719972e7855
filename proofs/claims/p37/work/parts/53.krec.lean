/-! agree, record, survey -/
theorem if_lt32 {x y : Int32} {α : Type} (a b : α) : (if x < y then a else b) = iT (x < y) a b := by
  by_cases h : x < y
  · rw [if_pos h, iT_T h]
  · rw [if_neg h, iT_F h]
section C
variable {ad : Nat → Nat → Nat} {S : PT} {T : CT} {σ : SG} {n : Nat → Nat} {μ : MU} {pl : Nat → Nat} {B E : Nat}
theorem k_agree (R : RC ad (VC n (z_len σ)) S T) (H : GI T σ μ n pl B E) (x y : Int32) {mc ms : Nat} (h1 : 1 ≤ mc) (h6 : 6 ≤ ms) {post : Int32 → PT → Prop} {postX : String → PT → Prop}
    (hx1 : q_agree σ x y = 1 → postX "java/lang/IndexOutOfBoundsException" S) (hx2 : q_agree σ x y = 2 → postX "java/lang/IllegalArgumentException" S)
    (h : q_agree σ x y = 0 → ∀ S' T', RC ad (VC n (z_len σ)) S' T' → SM T T' → GI T' (u_agree σ x y) μ n pl B E → post (iT (σ 39 (24 * x.toNatClampNeg + y.toNatClampNeg) = 0) 1 0) S') : w_X8_agree (ad 9 0) x y S mc ms post postX := by
  unfold w_X8_agree w_X8_agree_b22
  unfold q_agree at hx1 hx2 h
  refine ⟨(RC_o9 R VC_9).1, ?_⟩
  rw [k_worksAt R H.1]
  refine ⟨(RC_o9 R VC_9).1, ?_⟩
  rw [k_worksAt R H.1]
  by_cases hv : 0 ≤ x ∧ x ≤ σ 23 0 - 1
  · rw [iT_T hv]
    by_cases hv2 : 0 ≤ y ∧ y ≤ σ 23 0 - 1
    · rw [iT_T hv2]
      obtain ⟨j, hj, rfl, hj2⟩ := wk_n H.1 hv
      obtain ⟨k, hk, rfl, hk2⟩ := wk_n H.1 hv2
      have h24 : n 8 ≤ 24 := H.1.1.2.2.2.2.2.1
      rw [iT_F (show ¬ ¬ _ from fun z => z ⟨hv, hv2⟩)] at h hx2
      rw [qn_nat hj2, qn_nat hk2] at h ⊢
      refine ⟨fun e => (by cases e), fun a7 e7 => ⟨fun e => (by cases e), fun a9 e9 => ?_⟩⟩
      cases e7; cases e9
      refine ⟨fun hne => ?_, fun he => ⟨by omega, by omega, hx2 (iT_T he)⟩⟩
      have hjk : j ≠ k := fun e => hne (by rw [e])
      have Dj := (H.1.2.2.2.1 j hj).1
      have Dk := (H.1.2.2.2.1 k hk).1
      have oj := RC_o8 R (VC_8 (len := z_len σ) hj)
      have ok := RC_o8 R (VC_8 (len := z_len σ) hk)
      refine ⟨oj.1, ok.1, ?_⟩
      rw [k_bit R hk Dk]
      refine ⟨oj.1, ?_⟩
      rw [oj.2.2.2.2.2.2.2.2.2.2.2.2.2.2.2.1]
      refine RC_uI R (VC_8 hj) 14 rfl (by decide) (by decide) (fun S1 R1 => ?_)
      have ok1 := RC_o8 R1 (VC_8 (len := z_len σ) hk)
      refine ⟨ok1.1, ?_⟩
      have eb : ∀ P : Int32 → PT → Prop, w_X7_bit (ad 8 j) S1 P = P (1 <<< (nI j &&& 31)) S1 := by
        intro P
        unfold w_X7_bit
        simp only [RC_o8 R1 (VC_8 hj), tI_o (show 800 ≠ 814 by decide), Dj.1, true_and]
      rw [eb]
      refine ⟨ok1.1, ?_⟩
      rw [ok1.2.2.2.2.2.2.2.2.2.2.2.2.2.2.2.1, tI_i (fun e => hjk e.symm)]
      refine RC_uI R1 (VC_8 hk) 14 rfl (by decide) (by decide) (fun S2 R2 => ?_)
      have G := gp_agree (B := B) (E := E) H hj hk hjk rfl rfl rfl
      have hl : z_len (u_agree σ (nI j) (nI k)) = z_len σ := z_len_c (fun i => by unfold u_agree; rw [up2_f _ _ _ _ (by decide), up2_f _ _ _ _ (by decide), up2_f _ _ _ _ (by decide)])
      have eu : u_agree σ (nI j) (nI k) = up2 (up2 (up2 σ 49 0 0) 39 (24 * j + k) (iT (σ 39 (24 * j + k) = 0) 1 0)) 39 (24 * k + j) (iT (σ 39 (24 * j + k) = 0) 1 0) := by
        unfold u_agree; rw [qn_nat hj2, qn_nat hk2]
      rw [← eu] at G
      refine ⟨(RC_o8 R2 (VC_8 hj)).1, ?_⟩
      have R2' := R2
      rw [← hl] at R2'
      rw [k_agreesWith R2' G.1 hj hk]
      have e39 : bI (¬ u_agree σ (nI j) (nI k) 39 (24 * j + k) = 0) = iT (σ 39 (24 * j + k) = 0) 1 0 := by
        rw [eu, up2_i _ _ (show 24 * j + k ≠ 24 * k + j by omega), up2_s]
        by_cases e : σ 39 (24 * j + k) = 0
        · rw [iT_T e, bI_T (by decide)]
        · rw [iT_F e, bI_F (by decide)]
      rw [e39]
      exact h (iT_F hne) S2 _ R2 ⟨rfl, rfl, rfl⟩ G
    · rw [iT_F hv2]
      refine ⟨fun e => ⟨by omega, by omega, by omega, by omega, hx1 (iT_T (fun z => hv2 z.2))⟩, fun a7 e7 => ⟨fun e => ⟨by omega, by omega, by omega, by omega, hx1 (iT_T (fun z => hv2 z.2))⟩, fun a9 e9 => (by cases e9)⟩⟩
  · rw [iT_F hv]
    exact ⟨fun e => ⟨by omega, by omega, by omega, by omega, hx1 (iT_T (fun z => hv z.1))⟩, fun a7 e7 => (by cases e7)⟩
/-- the record of a thing -/
noncomputable def y_rec (T : CT) (σ : SG) (t : Nat) (a b c : Int32) : CT := uI (uI (uI T 705 t 1) 706 t (iT (a - c < 0) 0 (a - c))) 707 t (iT (σ 2 (σ 16 t).toNatClampNeg - 1 < b + c) (σ 2 (σ 16 t).toNatClampNeg - 1) (b + c))
def u_rec (σ : SG) (t : Nat) (a b c : Int32) : SG := up2 (up2 (up2 (up2 σ 49 0 0) 20 t 1) 21 t (a - c)) 22 t (b + c)
theorem k_putRecord (R : RC ad (VC n (z_len σ)) S T) (H : DQ T σ n) {t : Nat} (ht : t < n 7) (a b c : Int32) {post : PT → Prop} (h : ∀ S', RC ad (VC n (z_len σ)) S' (y_rec T σ t a b c) → post S') : w_X6_putRecord (ad 7 t) a b c S post := by
  obtain ⟨-, d1, -⟩ := H.2.2.2.2.1 t ht
  have hs := (H.2.2.2.2.2.2.1.2.1 t ht).1
  obtain ⟨-, -, -, -, d4, -, -, -, -, -, dn, -⟩ := H.2.2.1 _ hs
  have hl := z_len_i H.2.2.2.2.2.2.2 (σ 16 t).toNatClampNeg
  unfold w_X6_putRecord
  refine ⟨(RC_o7 R (VC_7 ht)).1, RC_uI R (VC_7 ht) 5 rfl (by decide) (by decide) (fun S1 R1 => ?_)⟩
  rw [if_lt32]
  refine RC_uI R1 (VC_7 ht) 6 rfl (by decide) (by decide) (fun S2 R2 => ?_)
  have p1 : tP (uI (uI T 705 t 1) 706 t (iT (a - c < 0) 0 (a - c))) 701 t = some (σ 16 t).toNatClampNeg := d1
  have p2 : tP (uI (uI T 705 t 1) 706 t (iT (a - c < 0) 0 (a - c))) 504 (σ 16 t).toNatClampNeg = some (σ 16 t).toNatClampNeg := d4
  have p3 : tN (uI (uI T 705 t 1) 706 t (iT (a - c < 0) 0 (a - c))) 15 (σ 16 t).toNatClampNeg = z_len σ (σ 16 t).toNatClampNeg := dn
  simp only [RC_o7 R2 (VC_7 ht), p1, Option.map_some, Option.some.injEq, exists_eq_left', RC_o5 R2 (VC_5 hs), p2, RC_a15 R2 (VC_15 hs), p3, true_and, ← hl.1, if_lt32]
  exact RC_uI R2 (VC_7 ht) 7 rfl (by decide) (by decide) (fun S3 R3 => h S3 R3)
theorem gp_rec (H : GI T σ μ n pl B E) {t : Nat} (ht : t < n 7) {a b c : Int32} (ha : 0 ≤ a) (hab : a ≤ b) (hb : b ≤ σ 2 (σ 16 t).toNatClampNeg - 1) (hc : 0 ≤ c ∧ c ≤ 3) : GI (y_rec T σ t a b c) (u_rec σ t a b c) μ n pl B E := by
  obtain ⟨⟨h1, h9, h5, h8, h7, h3, hv, hbd⟩, ⟨hd, hs⟩, hr, h4, hl, hta, htb, fa, fb, fc, fd, fe, ff, fg, fh, fi⟩ := H
  have eS : ∀ f, ¬ (f = 20 ∨ f = 21 ∨ f = 22 ∨ f = 49) → u_rec σ t a b c f = σ f := fun f h => by unfold u_rec; rw [sg_o (by omega), sg_o (by omega), sg_o (by omega), sg_o (by omega)]
  have eI : ∀ F, ¬ (F = 705 ∨ F = 706 ∨ F = 707) → tI (y_rec T σ t a b c) F = tI T F := fun F h => by unfold y_rec; show up2 (up2 (up2 (tI T) 705 t _) 706 t _) 707 t _ F = _; rw [sg_o (by omega), sg_o (by omega), sg_o (by omega)]
  have eP : ∀ F9, ¬ False → tP (y_rec T σ t a b c) F9 = tP T F9 := fun _ _ => rfl
  have eN : ∀ F9, ¬ False → tN (y_rec T σ t a b c) F9 = tN T F9 := fun _ _ => rfl
  have eR : ∀ F9, ¬ False → tR (y_rec T σ t a b c) F9 = tR T F9 := fun _ _ => rfl
  have eA : tA (y_rec T σ t a b c) = tA T := rfl
  have eJ : tJ (y_rec T σ t a b c) = tJ T := rfl
  have eM : μ = μ := rfl
  have hlen := z_len_i hbd (σ 16 t).toNatClampNeg
  have la := ha; have lab := hab; have lb := hb; have lc := hc.1; have ld := hc.2
  rw [ile, I0] at la lc
  rw [ile] at lab
  rw [hlen.1, ile, tsub, nI_toInt (by omega), show (1 : Int32).toInt = 1 from by decide] at lb
  rw [ile, show (3 : Int32).toInt = 3 from by decide] at ld
  have e20 : u_rec σ t a b c 20 t = 1 := by unfold u_rec; rw [up2_f _ _ _ _ (by decide), up2_f _ _ _ _ (by decide), up2_s]
  have e21 : u_rec σ t a b c 21 t = a - c := by unfold u_rec; rw [up2_f _ _ _ _ (by decide), up2_s]
  have e22 : u_rec σ t a b c 22 t = b + c := by unfold u_rec; rw [up2_s]
  have ei : ∀ f s, s ≠ t → u_rec σ t a b c f s = (up2 σ 49 0 0) f s := fun f s h => by unfold u_rec; rw [up2_i _ _ h, up2_i _ _ h, up2_i _ _ h]
  have eo : ∀ F s, s ≠ t → tI (y_rec T σ t a b c) F s = tI T F s := fun F s h => by unfold y_rec; rw [tI_i h, tI_i h, tI_i h]
  refine ⟨⟨(DN_c (by rw [eS 1 (by first | omega | exact not_false)]) (by rw [eS 14 (by first | omega | exact not_false)]) (by rw [eS 23 (by first | omega | exact not_false)]) (by rw [eS 40 (by first | omega | exact not_false)]) h1), (D9_d (fun F hF => eI F (by first | omega | exact not_false)) (fun F hF => eP F (by first | omega | exact not_false)) (fun k hk => eN k (by first | omega | exact not_false)) (fun k hk hk2 => eR k (by first | omega | exact not_false)) (by rw [eS 0 (by first | omega | exact not_false)]) h9), (fun j hj => D5_c (fun F hF _ _ => by rw [eI F (by first | omega | exact not_false)]) (fun F hF => by rw [eP F (by first | omega | exact not_false)]) (by rw [eN 15 (by first | omega | exact not_false)]) (by rw [eR 15 (by first | omega | exact not_false)]) (fun f a b _ => by rw [eS f (by first | omega | exact not_false)]) (h5 j hj)), (fun k hk => ⟨D8_c (fun F hF => by rw [eI F (by first | omega | exact not_false)]) (fun F hF => by rw [eP F (by first | omega | exact not_false)]) (fun f a b => by rw [eS f (by first | omega | exact not_false)]) (by unfold z_opens; rw [eS 13 (by first | omega | exact not_false)]) (h8 k hk).1, D8a_c (by rw [eI 814 (by first | omega | exact not_false)]) (eS 39 (by first | omega | exact not_false)) (h8 k hk).2⟩), ?_, (fun j i hj hi => D3_c (fun F hF => by rw [eI F (by first | omega | exact not_false)]) (by rw [eP 303 (by first | omega | exact not_false)]) (by rw [eS 12 (by first | omega | exact not_false)]) (by rw [eS 13 (by first | omega | exact not_false)]) (eS 41 (by first | omega | exact not_false)) (h3 j i hj (by rw [show z_len _ = z_len σ from z_len_c (fun j => by rw [eS 2 (by first | omega | exact not_false)])] at hi; exact hi))), (DV_c (fun f hf => eS f (by first | omega | exact not_false)) hv), ?_⟩, ⟨(fun k hk => D1_c (fun F hF => by rw [eI F (by first | omega | exact not_false)]) (fun F hF => by rw [eP F (by first | omega | exact not_false)]) (fun f a b => eS f (by first | omega | exact not_false)) (hd k hk)), (DS_c (eI 508 (by first | omega | exact not_false)) (eS 7 (by first | omega | exact not_false)) hs)⟩, ?_, (fun p hp => D4_c (by rw [eJ]) (fun F hF => by rw [eI F (by first | omega | exact not_false)]) (by rw [eM]) (eS 24 (by first | omega | exact not_false)) (eS 42 (by first | omega | exact not_false)) (by rw [eS 46 (by first | omega | exact not_false)]) (by rw [eS 47 (by first | omega | exact not_false)]) (h4 p hp)), (DL_c (eI 201 (by first | omega | exact not_false)) (eP 200 (by first | omega | exact not_false)) (eN 12 (by first | omega | exact not_false)) eA eM hl), (DTa_c (fun F hF => eI F (by first | omega | exact not_false)) (fun F hF => eP F (by first | omega | exact not_false)) (fun f hf => eS f (by first | omega | exact not_false)) hta), (DTb_c (eI 1102 (by first | omega | exact not_false)) (eP 1101 (by first | omega | exact not_false)) (eN 20 (by first | omega | exact not_false)) (eR 20 (by first | omega | exact not_false)) htb), (FRa_c (fun f hf => eS f (by first | omega | exact not_false)) fa), (FRb_c (eS 2 (by first | omega | exact not_false)) (eS 12 (by first | omega | exact not_false)) fb), ?_, (FRd_c (fun f hf => eS f (by first | omega | exact not_false)) fd), (FRe_c (eS 13 (by first | omega | exact not_false)) fe), (FRf_c (eS 39 (by first | omega | exact not_false)) ff), (FRg_c (eS 45 (by first | omega | exact not_false)) fg), (FRh_c (eS 7 (by first | omega | exact not_false)) (eS 40 (by first | omega | exact not_false)) fh), (FRi_c (eS 46 (by first | omega | exact not_false)) fi)⟩
  · intro s hs2
    by_cases e : s = t
    · subst e
      obtain ⟨a0, a1, a2, a3, a4, -, -⟩ := h7 _ hs2
      unfold D7
      rw [e20, e21, e22, eS 15 (by omega), eS 16 (by omega), eS 17 (by omega), eS 18 (by omega), eS 19 (by omega), eS 2 (by omega), eI 700 (by omega), eI 702 (by omega), eI 703 (by omega), eI 704 (by omega)]
      refine ⟨a0, a1, a2, a3, a4, ?_, fun _ => ⟨?_, ?_⟩⟩
      · unfold y_rec; rw [tI_o (by decide), tI_o (by decide), tI_s]
      · unfold y_rec; rw [tI_o (by decide), tI_s]
      · unfold y_rec; rw [tI_s]
    · exact D7_c (fun F hF => eo F s e) (fun _ _ => rfl) (fun f p q => by rw [ei f s e, up2_f _ _ _ _ (by omega)]) (eS 2 (by omega)) (h7 s hs2)
  · unfold u_rec
    refine IB_up (IB_up (IB_up (v := 1) (IB_49 hbd 0) 20 t (by decide) (by decide)) 21 t ?_ ?_) 22 t ?_ ?_
    · show (-3 : Int) ≤ _
      rw [tsub]; omega
    · show _ ≤ (39 : Int)
      rw [tsub]; omega
    · show (0 : Int) ≤ _
      rw [tadd]; omega
    · show _ ≤ (42 : Int)
      rw [tadd]; omega
  · intro s hs2 h20
    rw [eS 16 (by omega), eS 2 (by omega)]
    by_cases e : s = t
    · subst e
      rw [e21, e22]
      rw [hlen.1, ile, ile, ile, tsub, tsub, tadd, I0, nI_toInt (by omega), show (1 : Int32).toInt = 1 from by decide]
      omega
    · rw [ei 21 s e, ei 22 s e, up2_f _ _ _ _ (by decide), up2_f _ _ _ _ (by decide)]
      rw [ei 20 s e, up2_f _ _ _ _ (by decide)] at h20
      exact hr s hs2 h20
  · intro s hs2
    have e : s ≠ t := by omega
    rw [ei 20 s e, up2_f _ _ _ _ (by decide)]
    exact fc s hs2
end C
