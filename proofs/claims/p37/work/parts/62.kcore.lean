/-! core -/
section C
variable {ad : Nat → Nat → Nat} {S : PT} {T : CT} {σ : SG} {n len : Nat → Nat} {μ : MU} {pl : Nat → Nat} {B E : Nat}
theorem up2_same (f : SG) (i a : Nat) : up2 f i a (f i a) = f := by
  funext j b
  by_cases e : j = i ∧ b = a
  · rw [e.1, e.2, up2_s]
  · rw [up2_ne _ _ e]
theorem GI_up {T' : CT} {σ' : SG} {μ' : MU} {B' E' : Nat} (hB : B ≤ B') (hE : E ≤ E') (G : GI T' σ' μ' n pl B E) : GI T' σ' μ' n pl B' E' := by
  obtain ⟨a1, a2, a3, a4, ⟨r, k, l1, l2, l3⟩, a6, a7, a8, a9, a10, a11, a12, a13, a14, a15, a16⟩ := G
  exact ⟨a1, a2, a3, a4, ⟨r, k, l1, by omega, l3⟩, a6, a7, a8, a9, a10, a11, a12, a13, a14, a15, fun p => by have := a16 p; omega⟩
theorem g_core (H : GI T σ μ n pl B E) {f p : Nat} (hf : f < n 1) (hp : p < 5) {σ' : SG} (es : σ' = up2 (up2 σ 45 f 1) 47 p (σ 47 p + 1)) : GI (uI (uI T 105 f 1) 403 p (tI T 403 p + 1)) σ' μ n pl B E := by
  obtain ⟨⟨h1, h9, h5, h8, h7, h3, hv, hb⟩, ⟨hd, hs⟩, hr, h4, hl, hta, htb, fa, fb, fc, fd, fe, ff, fg, fh, fi⟩ := H
  have eS : ∀ f, ¬ (f = 45 ∨ f = 47) → σ' f = σ f := fun f h => by rw [es, sg_o (by omega), sg_o (by omega)]
  have eI : ∀ F, ¬ (F = 105 ∨ F = 403) → tI (uI (uI T 105 f 1) 403 p (tI T 403 p + 1)) F = tI T F := fun F h => by show up2 (up2 (tI T) 105 f _) 403 p _ F = _; rw [sg_o (by omega), sg_o (by omega)]
  have eP : ∀ F9, ¬ False → tP (uI (uI T 105 f 1) 403 p (tI T 403 p + 1)) F9 = tP T F9 := fun _ _ => rfl
  have eN : ∀ F9, ¬ False → tN (uI (uI T 105 f 1) 403 p (tI T 403 p + 1)) F9 = tN T F9 := fun _ _ => rfl
  have eR : ∀ F9, ¬ False → tR (uI (uI T 105 f 1) 403 p (tI T 403 p + 1)) F9 = tR T F9 := fun _ _ => rfl
  have eA : tA (uI (uI T 105 f 1) 403 p (tI T 403 p + 1)) = tA T := rfl
  have eJ : tJ (uI (uI T 105 f 1) 403 p (tI T 403 p + 1)) = tJ T := rfl
  have eM : μ = μ := rfl
  refine ⟨⟨(DN_c (by rw [eS 1 (by first | omega | exact not_false)]) (by rw [eS 14 (by first | omega | exact not_false)]) (by rw [eS 23 (by first | omega | exact not_false)]) (by rw [eS 40 (by first | omega | exact not_false)]) h1), (D9_d (fun F hF => eI F (by first | omega | exact not_false)) (fun F hF => eP F (by first | omega | exact not_false)) (fun k hk => eN k (by first | omega | exact not_false)) (fun k hk hk2 => eR k (by first | omega | exact not_false)) (by rw [eS 0 (by first | omega | exact not_false)]) h9), (fun j hj => D5_c (fun F hF _ _ => by rw [eI F (by first | omega | exact not_false)]) (fun F hF => by rw [eP F (by first | omega | exact not_false)]) (by rw [eN 15 (by first | omega | exact not_false)]) (by rw [eR 15 (by first | omega | exact not_false)]) (fun f a b _ => by rw [eS f (by first | omega | exact not_false)]) (h5 j hj)), (fun k hk => ⟨D8_c (fun F hF => by rw [eI F (by first | omega | exact not_false)]) (fun F hF => by rw [eP F (by first | omega | exact not_false)]) (fun f a b => by rw [eS f (by first | omega | exact not_false)]) (by unfold z_opens; rw [eS 13 (by first | omega | exact not_false)]) (h8 k hk).1, D8a_c (by rw [eI 814 (by first | omega | exact not_false)]) (eS 39 (by first | omega | exact not_false)) (h8 k hk).2⟩), (fun t ht => D7_c (fun F hF => by rw [eI F (by first | omega | exact not_false)]) (fun F hF => by rw [eP F (by first | omega | exact not_false)]) (fun f a b => by rw [eS f (by first | omega | exact not_false)]) (eS 2 (by first | omega | exact not_false)) (h7 t ht)), (fun j i hj hi => D3_c (fun F hF => by rw [eI F (by first | omega | exact not_false)]) (by rw [eP 303 (by first | omega | exact not_false)]) (by rw [eS 12 (by first | omega | exact not_false)]) (by rw [eS 13 (by first | omega | exact not_false)]) (eS 41 (by first | omega | exact not_false)) (h3 j i hj (by rw [show z_len _ = z_len σ from z_len_c (fun j => by rw [eS 2 (by first | omega | exact not_false)])] at hi; exact hi))), (DV_c (fun f hf => eS f (by first | omega | exact not_false)) hv), ?_⟩, ⟨?_, (DS_c (eI 508 (by first | omega | exact not_false)) (eS 7 (by first | omega | exact not_false)) hs)⟩, (DR_c (fun f hf => eS f (by first | omega | exact not_false)) hr), ?_, (DL_c (eI 201 (by first | omega | exact not_false)) (eP 200 (by first | omega | exact not_false)) (eN 12 (by first | omega | exact not_false)) eA eM hl), (DTa_c (fun F hF => eI F (by first | omega | exact not_false)) (fun F hF => eP F (by first | omega | exact not_false)) (fun f hf => eS f (by first | omega | exact not_false)) hta), (DTb_c (eI 1102 (by first | omega | exact not_false)) (eP 1101 (by first | omega | exact not_false)) (eN 20 (by first | omega | exact not_false)) (eR 20 (by first | omega | exact not_false)) htb), (FRa_c (fun f hf => eS f (by first | omega | exact not_false)) fa), (FRb_c (eS 2 (by first | omega | exact not_false)) (eS 12 (by first | omega | exact not_false)) fb), (FRc_c (eS 20 (by first | omega | exact not_false)) fc), (FRd_c (fun f hf => eS f (by first | omega | exact not_false)) fd), (FRe_c (eS 13 (by first | omega | exact not_false)) fe), (FRf_c (eS 39 (by first | omega | exact not_false)) ff), ?_, (FRh_c (eS 7 (by first | omega | exact not_false)) (eS 40 (by first | omega | exact not_false)) fh), (FRi_c (eS 46 (by first | omega | exact not_false)) fi)⟩
  · rw [es]
    exact IB_up (IB_up (v := 1) hb 45 f (by decide) (by decide)) 47 p (Ilo _) (by have := Ihi (σ 47 p + 1); simp only [bh]; omega)
  · intro k hk
    obtain ⟨d0, d1, d2, d3, d4, d5⟩ := hd k hk
    unfold D1
    rw [eS 41 (by omega), eS 42 (by omega), eS 43 (by omega), eS 44 (by omega), eI 101 (by omega), eI 102 (by omega), eI 103 (by omega)]
    refine ⟨d0, d1, d2, d3, d4, ?_⟩
    rw [tI_o (by decide), es, up2_f _ _ _ _ (by decide)]
    by_cases e : k = f
    · rw [e, tI_s, up2_s]
    · rw [tI_i e, up2_i _ _ e]; exact d5
  · intro w hw
    have D := h4 w hw
    have ez : z_fb σ' (nI w) = z_fb σ (nI w) := by funext k; unfold z_fb; rw [eS 24 (by omega), eS 42 (by omega)]
    unfold D4 at *
    rw [eJ, ez, eS 46 (by omega), eI 401 (by omega), eI 402 (by omega)]
    refine ⟨D.1, fun h5 => ⟨(D.2 h5).1, (D.2 h5).2.1, ?_⟩⟩
    rw [es]
    by_cases e : w = p
    · subst e
      rw [tI_s, up2_s, (D.2 h5).2.2]
    · rw [tI_i e, up2_i _ _ e, tI_o (by decide), up2_f _ _ _ _ (by decide)]
      exact (D.2 h5).2.2
  · intro k hk
    rw [es, up2_f _ _ _ _ (by decide), up2_i _ _ (by omega)]
    exact fg k hk
theorem k_core (R : RC ad (VC n (z_len σ)) S T) (H : GI T σ μ n pl B E) (hE : E < 2000000) (x y : Int32) {mc ms : Nat} (h1 : 1 ≤ mc) (h6 : 6 ≤ ms) {post : Int32 → PT → Prop} {postX : String → PT → Prop}
    (hx1 : q_core σ x y (n 1) = 1 → postX "java/lang/IndexOutOfBoundsException" S) (hx2 : q_core σ x y (n 1) = 2 → postX "java/lang/IllegalStateException" S)
    (h : q_core σ x y (n 1) = 0 → ∀ S' T', RC ad (VC n (z_len σ)) S' T' → SM T T' → GI T' (u_core σ (z_lat σ x y (n 1)).toNatClampNeg) μ n pl B (E + 1) → post (σ 44 (z_lat σ x y (n 1)).toNatClampNeg) S') : w_X8_core (ad 9 0) x y S mc ms post postX := by
  unfold w_X8_core
  unfold q_core at hx1 hx2 h
  have b30 : ¬ z_mt σ x y → w_X8_core_b30 (ad 9 0) x y mc ms post postX 0 0 S := fun hn => ⟨by omega, by omega, by omega, by omega, hx1 (iT_T hn)⟩
  refine ⟨(RC_o9 R VC_9).1, ?_⟩
  rw [k_streetAt R H.1]
  unfold w_X8_core_b19
  by_cases hv : 0 ≤ x ∧ x ≤ σ 1 0 - 1
  · rw [iT_T hv]
    obtain ⟨s, hs, rfl, hs2⟩ := st_n H.1 hv
    rw [qn_nat hs2]
    refine ⟨fun e => (by cases e), fun a9 e => ?_⟩
    cases e
    refine ⟨(RC_o5 R (VC_5 hs)).1, ?_⟩
    rw [k_metreAt R H.1 hs]
    refine ⟨by omega, by omega, fun e => (by cases e), fun a9 e => ?_⟩
    by_cases ha : 0 ≤ y ∧ y ≤ σ 2 s - 1
    · rw [iT_T ha]
      obtain ⟨i, hi, rfl, hi40⟩ := len_in H.1 ha
      have hm : z_mt σ (nI s) (nI i) := by unfold z_mt; rw [qn_nat hs2]; exact ⟨hv, ha⟩
      rw [iT_F (show ¬ ¬ _ from fun n => n hm)] at h hx2
      rw [qn_nat (show i < 2147483648 by omega)]
      refine ⟨fun e => (by cases e), fun a3 e3 => ?_⟩
      cases e3
      have o3 := RC_o3 R (VC_3 (len := z_len σ) hs hi hi40)
      obtain ⟨-, -, -, m3⟩ := H.1.2.2.2.2.2.1 s i hs hi
      have h512 : n 1 ≤ 512 := by have := H.1.1.2.2.2.2.2.2.2.1; have := H.1.1.2.2.2.2.2.2.2.2; omega
      have bad : (z_lat σ (nI s) (nI i) (n 1) = -1 ∨ ¬ σ 45 (z_lat σ (nI s) (nI i) (n 1)).toNatClampNeg = 0) → w_X8_core_b60 (ad 9 0) (nI s) (nI i) mc ms post postX 0 0 S := fun hn => ⟨by omega, by omega, by omega, by omega, hx2 (iT_T hn)⟩
      have ez : z_lat σ (nI s) (nI i) (n 1) = (match lastO (fun k => σ 41 k = nI (40 * s + i)) (n 1) with | none => -1 | some k => nI k) := by
        unfold z_lat z_q
        rw [at_eq]
        exact laN_O _ _
      rw [o3.2.2.2.2, m3]
      refine ⟨o3.1, ?_⟩
      cases hf : lastO (fun k => σ 41 k = nI (40 * s + i)) (n 1) with
      | none =>
        rw [hf] at ez
        exact ⟨fun _ => bad (Or.inl ez), fun a e => (by cases e)⟩
      | some f =>
        rw [hf] at ez
        obtain ⟨hf1, -⟩ := lastO_in _ _ _ hf
        have ef : (z_lat σ (nI s) (nI i) (n 1)).toNatClampNeg = f := by rw [ez]; exact qn_nat (by omega)
        have hne : ¬ z_lat σ (nI s) (nI i) (n 1) = -1 := by
          rw [ez]
          show ¬ nI f = -1
          rw [ieq, nI_toInt (by omega), show (-1 : Int32).toInt = -1 from by decide]; omega
        rw [ef] at h bad
        refine ⟨fun e => (by cases e), fun a e => ?_⟩
        cases e
        obtain ⟨d0, d1, d2, d3, d4, d5⟩ := H.2.1.1 f hf1
        have hw := H.1.2.2.2.2.2.2.1.2.2.2.1 f hf1
        have o1 := RC_o1 R (VC_1 (n := n) (len := z_len σ) hf1)
        refine ⟨o1.1, ?_⟩
        rw [o1.2.2.2.2.2.2, d5]
        refine ⟨fun h0 => ?_, fun h0 => bad (Or.inr h0)⟩
        refine RC_uI R (VC_1 hf1) 5 rfl (by decide) (by decide) (fun S1 R1 => ?_)
        have o11 := RC_o1 R1 (VC_1 (n := n) (len := z_len σ) hf1)
        have p100 : gP S1 100 (ad 1 f) = some (ad 8 (σ 42 f).toNatClampNeg) := by
          rw [o11.2.1]; show (tP T 100 f).map _ = _; rw [d0]; rfl
        have o8 := RC_o8 R1 (VC_8 (n := n) (len := z_len σ) hw)
        obtain ⟨p, hp, ep, ep2⟩ := pr_n H.1.2.2.2.2.2.2.2 (σ 42 f).toNatClampNeg
        have e801 : gI S1 801 (ad 8 (σ 42 f).toNatClampNeg) = nI p := by rw [o8.2.2.1, tI_o (by decide), (H.1.2.2.2.1 _ hw).1.2.1, ep]
        refine ⟨_, p100, o8.1, (RC_o9 R1 VC_9).1, ?_⟩
        rw [e801]
        -- the pool with the core told: not yet the bundle, but the questions need only the object
        have in5 : 0 ≤ nI p ∧ nI p ≤ 5 := by rw [ile, ile, nI_toInt (by omega), I0, show (5 : Int32).toInt = 5 from by decide]; omega
        have Hc : DQ (uI T 105 f 1) (up2 σ 45 f 1) n := by
          obtain ⟨h1, h9, h5, h8, h7, h3, hv, hb⟩ := H.1
          have eS : ∀ g, ¬ (g = 45) → up2 σ 45 f 1 g = σ g := fun g h => sg_o h
          have eI : ∀ F, ¬ (F = 105) → tI (uI T 105 f 1) F = tI T F := fun F h => sg_o (σ := tI T) h
          have eP : ∀ F9, ¬ False → tP (uI T 105 f 1) F9 = tP T F9 := fun _ _ => rfl
          have eN : ∀ F9, ¬ False → tN (uI T 105 f 1) F9 = tN T F9 := fun _ _ => rfl
          have eR : ∀ F9, ¬ False → tR (uI T 105 f 1) F9 = tR T F9 := fun _ _ => rfl
          exact ⟨(DN_c (by rw [eS 1 (by first | omega | exact not_false)]) (by rw [eS 14 (by first | omega | exact not_false)]) (by rw [eS 23 (by first | omega | exact not_false)]) (by rw [eS 40 (by first | omega | exact not_false)]) h1), (D9_d (fun F hF => eI F (by first | omega | exact not_false)) (fun F hF => eP F (by first | omega | exact not_false)) (fun k hk => eN k (by first | omega | exact not_false)) (fun k hk hk2 => eR k (by first | omega | exact not_false)) (by rw [eS 0 (by first | omega | exact not_false)]) h9), (fun j hj => D5_c (fun F hF _ _ => by rw [eI F (by first | omega | exact not_false)]) (fun F hF => by rw [eP F (by first | omega | exact not_false)]) (by rw [eN 15 (by first | omega | exact not_false)]) (by rw [eR 15 (by first | omega | exact not_false)]) (fun f a b _ => by rw [eS f (by first | omega | exact not_false)]) (h5 j hj)), (fun k hk => ⟨D8_c (fun F hF => by rw [eI F (by first | omega | exact not_false)]) (fun F hF => by rw [eP F (by first | omega | exact not_false)]) (fun f a b => by rw [eS f (by first | omega | exact not_false)]) (by unfold z_opens; rw [eS 13 (by first | omega | exact not_false)]) (h8 k hk).1, D8a_c (by rw [eI 814 (by first | omega | exact not_false)]) (eS 39 (by first | omega | exact not_false)) (h8 k hk).2⟩), (fun t ht => D7_c (fun F hF => by rw [eI F (by first | omega | exact not_false)]) (fun F hF => by rw [eP F (by first | omega | exact not_false)]) (fun f a b => by rw [eS f (by first | omega | exact not_false)]) (eS 2 (by first | omega | exact not_false)) (h7 t ht)), (fun j i hj hi => D3_c (fun F hF => by rw [eI F (by first | omega | exact not_false)]) (by rw [eP 303 (by first | omega | exact not_false)]) (by rw [eS 12 (by first | omega | exact not_false)]) (by rw [eS 13 (by first | omega | exact not_false)]) (eS 41 (by first | omega | exact not_false)) (h3 j i hj (by rw [show z_len _ = z_len σ from z_len_c (fun j => by rw [eS 2 (by first | omega | exact not_false)])] at hi; exact hi))), (DV_c (fun f hf => eS f (by first | omega | exact not_false)) hv), IB_up (v := 1) hb 45 f (by decide) (by decide)⟩
        have hl1 : z_len (up2 σ 45 f 1) = z_len σ := z_len_c (fun i => by rw [up2_f _ _ _ _ (by decide)])
        have R1' := R1
        rw [← hl1] at R1'
        refine k_countCore R1' Hc hp (fun S2 R2' => ?_)
        have R2 := R2'
        rw [hl1] at R2
        have G2 := g_core (gp_49 H 0) hf1 hp rfl
        have o12 := RC_o1 R2 (VC_1 (n := n) (len := z_len σ) hf1)
        have e102 : gI S2 102 (ad 1 f) = σ 44 f := by rw [o12.2.2.2.1, tI_o (by decide), tI_o (by decide), d2]
        refine ⟨o12.1, ?_⟩
        rw [e102]
        have eu : u_core σ f = up2 (up2 (up2 (up2 σ 49 0 0) 45 f 1) 47 p (up2 σ 49 0 0 47 p + 1)) 46 p (σ 46 p + iT (80 ≤ σ 44 f) 0 1) := by
          unfold u_core z_pr
          rw [ep2, up2_f _ _ _ _ (show 47 ≠ 49 by decide)]
        have e46 : up2 (up2 (up2 σ 49 0 0) 45 f 1) 47 p (up2 σ 49 0 0 47 p + 1) 46 p = σ 46 p := by simp only [up2_f, ne_eq, Nat.reduceEqDiff, not_false_eq_true]
        have good : ¬ (z_lat σ (nI s) (nI i) (n 1) = -1 ∨ ¬ σ 45 f = 0) := fun z => z.elim hne (fun y => y h0)
        refine ⟨fun h80 => ?_, fun h80 => ?_⟩
        · refine ⟨by omega, by omega, _, rfl, o12.1, ?_⟩
          rw [e102]
          refine h (iT_F good) S2 _ R2 ⟨rfl, rfl, rfl⟩ ?_
          rw [eu, iT_T h80, Int32.add_zero]
          have := up2_same (up2 (up2 (up2 σ 49 0 0) 45 f 1) 47 p (up2 σ 49 0 0 47 p + 1)) 46 p
          rw [e46] at this
          rw [this]
          exact GI_up (Nat.le_refl _) (by omega) G2
        · have p1002 : gP S2 100 (ad 1 f) = some (ad 8 (σ 42 f).toNatClampNeg) := by
            rw [o12.2.1]; show (tP T 100 f).map _ = _; rw [d0]; rfl
          have o82 := RC_o8 R2 (VC_8 (n := n) (len := z_len σ) hw)
          have e8012 : gI S2 801 (ad 8 (σ 42 f).toNatClampNeg) = nI p := by rw [o82.2.2.1, tI_o (by decide), tI_o (by decide), (H.1.2.2.2.1 _ hw).1.2.1, ep]
          refine ⟨_, p1002, o82.1, (RC_o9 R2 VC_9).1, ?_⟩
          rw [e8012]
          have hl2 : z_len (up2 (up2 (up2 σ 49 0 0) 45 f 1) 47 p (up2 σ 49 0 0 47 p + 1)) = z_len σ := z_len_c (fun i => by simp only [up2_f, ne_eq, Nat.reduceEqDiff, not_false_eq_true])
          have R3 := R2
          rw [← hl2] at R3
          refine k_countFault R3 G2.1 hp (fun S3 R4 => ?_)
          rw [hl2] at R4
          have G3 := g_fault G2 hE hp
          have o13 := RC_o1 R4 (VC_1 (n := n) (len := z_len σ) hf1)
          have e1023 : gI S3 102 (ad 1 f) = σ 44 f := by rw [o13.2.2.2.1, tI_o (by decide), tI_o (by decide), tI_o (by decide), d2]
          refine ⟨by omega, by omega, _, rfl, o13.1, ?_⟩
          rw [e1023]
          refine h (iT_F good) S3 _ R4 ⟨rfl, rfl, rfl⟩ ?_
          rw [eu, iT_F h80]
          rw [e46] at G3
          exact G3
    · rw [iT_F ha]
      exact ⟨fun _ => b30 (fun z => ha (by have := z.2; rw [qn_nat hs2] at this; exact this)), fun a e => (by cases e)⟩
  · rw [iT_F hv]
    exact ⟨fun _ => ⟨by omega, by omega, fun _ => b30 (fun z => hv z.1), fun a e => (by cases e)⟩, fun a e => (by cases e)⟩
end C
