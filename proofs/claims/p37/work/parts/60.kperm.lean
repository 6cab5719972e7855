/-! a payment goes through the bundle; permits -/
section C
variable {ad : Nat → Nat → Nat} {S : PT} {T : CT} {σ : SG} {n len : Nat → Nat} {μ : MU} {pl : Nat → Nat} {B E : Nat}
theorem gp_SL {T' : CT} {μ' : MU} {B' : Nat} (H : GI T σ μ n pl B E) (L : SL T T') (D : DL T' μ' B') (J : ∀ w, w < 6 → tJ T' w = μ' w) : GI T' σ μ' n pl B' E := by
  obtain ⟨⟨h1, h9, h5, h8, h7, h3, hv, hb⟩, ⟨hd, hs⟩, hr, h4, hl, hta, htb, fa, fb, fc, fd, fe, ff, fg, fh, fi⟩ := H
  have eS : ∀ f, ¬ False → σ f = σ f := fun _ _ => rfl
  have eI := L.1
  have eP : ∀ F, ¬ False → tP T' F = tP T F := fun F _ => by rw [L.2.1]
  have eN := L.2.2.1
  have eR : ∀ F, ¬ False → tR T' F = tR T F := fun F _ => by rw [L.2.2.2.1]
  refine ⟨⟨(DN_c (by rw [eS 1 (by first | omega | exact not_false)]) (by rw [eS 14 (by first | omega | exact not_false)]) (by rw [eS 23 (by first | omega | exact not_false)]) (by rw [eS 40 (by first | omega | exact not_false)]) h1), (D9_d (fun F hF => eI F (by first | omega | exact not_false)) (fun F hF => eP F (by first | omega | exact not_false)) (fun k hk => eN k (by first | omega | exact not_false)) (fun k hk hk2 => eR k (by first | omega | exact not_false)) (by rw [eS 0 (by first | omega | exact not_false)]) h9), (fun j hj => D5_c (fun F hF _ _ => by rw [eI F (by first | omega | exact not_false)]) (fun F hF => by rw [eP F (by first | omega | exact not_false)]) (by rw [eN 15 (by first | omega | exact not_false)]) (by rw [eR 15 (by first | omega | exact not_false)]) (fun f a b _ => by rw [eS f (by first | omega | exact not_false)]) (h5 j hj)), (fun k hk => ⟨D8_c (fun F hF => by rw [eI F (by first | omega | exact not_false)]) (fun F hF => by rw [eP F (by first | omega | exact not_false)]) (fun f a b => by rw [eS f (by first | omega | exact not_false)]) (by unfold z_opens; rw [eS 13 (by first | omega | exact not_false)]) (h8 k hk).1, D8a_c (by rw [eI 814 (by first | omega | exact not_false)]) (eS 39 (by first | omega | exact not_false)) (h8 k hk).2⟩), (fun t ht => D7_c (fun F hF => by rw [eI F (by first | omega | exact not_false)]) (fun F hF => by rw [eP F (by first | omega | exact not_false)]) (fun f a b => by rw [eS f (by first | omega | exact not_false)]) (eS 2 (by first | omega | exact not_false)) (h7 t ht)), fun j i hj hi => D3_c (fun F hF => by rw [eI F (by omega)]) (by rw [eP 303 not_false]) rfl rfl rfl (h3 j i hj hi), hv, hb⟩, ⟨(fun k hk => D1_c (fun F hF => by rw [eI F (by first | omega | exact not_false)]) (fun F hF => by rw [eP F (by first | omega | exact not_false)]) (fun f a b => eS f (by first | omega | exact not_false)) (hd k hk)), (DS_c (eI 508 (by first | omega | exact not_false)) (eS 7 (by first | omega | exact not_false)) hs)⟩, hr, ?_, D, (DTa_c (fun F hF => eI F (by first | omega | exact not_false)) (fun F hF => eP F (by first | omega | exact not_false)) (fun f hf => eS f (by first | omega | exact not_false)) hta), (DTb_c (eI 1102 (by first | omega | exact not_false)) (eP 1101 (by first | omega | exact not_false)) (eN 20 (by first | omega | exact not_false)) (eR 20 (by first | omega | exact not_false)) htb), fa, fb, fc, fd, fe, ff, fg, fh, fi⟩
  intro p hp
  have D4p := h4 p hp
  unfold D4 at *
  rw [eI 401 (by omega), eI 402 (by omega), eI 403 (by omega)]
  exact ⟨J p hp, D4p.2⟩
theorem g_pay (H : GI T σ μ n pl B E) (hB : B < 262144) {p q : Nat} (hp : p < 6) (hq : q < 6) {a : Int32} (ha0 : 0 ≤ a.toInt) (ha1 : a.toInt ≤ 2000) :
    ∃ T', GI T' σ (z_pay μ p q a) n pl (B + 1) E ∧ SL T T' ∧ PMe n (z_len σ) T T' (fun ad S mc ms post => w_X8_pay (ad 9 0) (nI p) (nI q) a S mc ms post) := by
  obtain ⟨T', L', J', sl, c⟩ := k_pay H.1 H.2.2.2.2.1 hB (fun p hp => (H.2.2.2.1 p hp).1) hp hq ha0 ha1
  exact ⟨T', gp_SL H sl L' J', sl, c⟩
theorem z_cost_b (H : IB σ) (k : Nat) : 0 ≤ (z_cost σ k).toInt ∧ (z_cost σ k).toInt ≤ 2000 := by
  have b := H 3 (σ 25 k).toNatClampNeg
  simp only [bl, bh] at b
  simp at b
  unfold z_cost
  have key : ∀ v : Int32, (v.toInt = 0 ∨ v.toInt = 20 ∨ v.toInt = 40 ∨ v.toInt = 60) → 0 ≤ (v * (4 - σ 3 (σ 25 k).toNatClampNeg)).toInt ∧ (v * (4 - σ 3 (σ 25 k).toNatClampNeg)).toInt ≤ 2000 := by
    intro v h0
    rw [tmul, tsub, show (4 : Int32).toInt = 4 from by decide]
    generalize (σ 3 (σ 25 k).toNatClampNeg).toInt = g at *
    have : ((4 - g + 2147483648) % 4294967296 - 2147483648) = 4 - g := by omega
    rw [this]
    have h2 : g = 0 ∨ g = 1 ∨ g = 2 ∨ g = 3 := by omega
    rcases h2 with h2 | h2 | h2 | h2 <;> rcases h0 with h0 | h0 | h0 | h0 <;> (rw [h2, h0]; decide)
  exact key _ (iT_ind (fun y : Int32 => y.toInt = 0 ∨ y.toInt = 20 ∨ y.toInt = 40 ∨ y.toInt = 60) (fun _ => by decide) (fun _ => iT_ind (fun y : Int32 => y.toInt = 0 ∨ y.toInt = 20 ∨ y.toInt = 40 ∨ y.toInt = 60) (fun _ => by decide) (fun _ => iT_ind (fun y : Int32 => y.toInt = 0 ∨ y.toInt = 20 ∨ y.toInt = 40 ∨ y.toInt = 60) (fun _ => by decide) (fun _ => by decide))))
theorem pr_n (H : IB σ) (k : Nat) : ∃ p : Nat, p < 5 ∧ σ 24 k = nI p ∧ (σ 24 k).toNatClampNeg = p := by
  obtain ⟨p, ep, hp, hp2⟩ := IB_nI H 24 k rfl
  have : (p : Int) ≤ 4 := hp
  exact ⟨p, by omega, ep, by rw [ep, qn_nat hp2]⟩
/-- what is written of pointers stays -/
def SW (T T' : CT) : Prop := tP T' = tP T ∧ tR T' = tR T
theorem SW_t {T T1 T2 : CT} (a : SW T T1) (b : SW T1 T2) : SW T T2 := ⟨b.1.trans a.1, b.2.trans a.2⟩
theorem SL_W {T T' : CT} (a : SL T T') : SW T T' := ⟨a.2.1, a.2.2.2.1⟩
theorem SW_F {T T' : CT} (a : SW T T') {V : Nat → Nat → Prop} (W : WF V T) : WF V T' := by unfold WF at *; rw [a.1, a.2]; exact W
theorem g_permit (H : GI T σ μ n pl B E) (hB : B < 262144) {k : Nat} (hk : k < n 8) {c : Int32} (hc : 0 ≤ c ∧ c ≤ 3) :
    ∃ T', GI T' (up2 (up2 σ 33 k 1) 34 k c) (z_pay μ (σ 24 k).toNatClampNeg 5 (z_cost σ k)) n pl (B + 1) E ∧ SW T T' ∧ PMe n (z_len σ) T T' (fun ad S mc ms post => w_X8_permit (ad 9 0) (some (ad 8 k)) c S mc ms post) := by
  have c1 := hc.1
  have c2 := hc.2
  rw [ile, I0] at c1
  rw [ile, show (3 : Int32).toInt = 3 from by decide] at c2
  have G : GI (uI (uI T 810 k 1) 811 k c) (up2 (up2 σ 33 k 1) 34 k c) μ n pl B E :=
    gp_wk (gp_wk (v := 1) H hk (Or.inl ⟨rfl, rfl⟩) (by decide) (by decide)) hk (Or.inr (Or.inl ⟨rfl, rfl⟩)) (by simp only [bl]; exact c1) (by simp only [bh]; exact c2)
  have hl : z_len (up2 (up2 σ 33 k 1) 34 k c) = z_len σ := z_len_c (fun i => by rw [up2_f _ _ _ _ (by decide), up2_f _ _ _ _ (by decide)])
  have ec : z_cost (up2 (up2 σ 33 k 1) 34 k c) k = z_cost σ k := by unfold z_cost; simp only [up2_f, ne_eq, Nat.reduceEqDiff, not_false_eq_true]
  obtain ⟨p, hp, ep, ep2⟩ := pr_n H.1.2.2.2.2.2.2.2 k
  have cb := z_cost_b H.1.2.2.2.2.2.2.2 k
  obtain ⟨T', G', sl, cap, cc⟩ := g_pay G hB (show p < 6 by omega) (show 5 < 6 by decide) cb.1 cb.2
  rw [hl] at cc
  rw [ep2]
  refine ⟨T', G', ⟨sl.2.1, sl.2.2.2.1⟩, cap, ?_⟩
  intro ad S mc ms post R hmc hms h
  show w_X8_permit (ad 9 0) (some (ad 8 k)) c S mc ms post
  unfold w_X8_permit
  refine ⟨ad 8 k, rfl, (RC_o8 R (VC_8 (len := z_len σ) hk)).1, ?_⟩
  refine RC_uI R (VC_8 hk) 10 rfl (by decide) (by decide) (fun S1 R1 => RC_uI R1 (VC_8 hk) 11 rfl (by decide) (by decide) (fun S2 R2 => ?_))
  have R3 := R2
  rw [← hl] at R3
  have hs := (G.1.2.2.2.2.2.2.1.2.2.1 k hk).1
  rw [k_permitCost R3 hk (G.1.2.2.2.1 k hk).1 hs (G.1.2.2.1 _ hs), ec]
  have e801 : gI S2 801 (ad 8 k) = nI p := by
    rw [(RC_o8 R2 (VC_8 (len := z_len σ) hk)).2.2.1, tI_o (by decide), tI_o (by decide), (H.1.2.2.2.1 k hk).1.2.1, ep]
  rw [e801]
  refine ⟨(RC_o9 R2 VC_9).1, _, _, Nat.le_trans (Nat.le_of_eq (Nat.zero_add _)) hmc, Nat.le_trans (Nat.le_of_eq (Nat.zero_add _)) hms, ?_⟩
  exact cc ad S2 _ _ _ R2 (Nat.le_refl _) (Nat.le_refl _) h
theorem cap_le (H : GI T σ μ n pl B E) : tN T 12 0 ≤ 262144 := by
  obtain ⟨r, k, -, -, -, h, hk, -⟩ := H.2.2.2.2.1
  have h2k : 2 ^ k ≤ 2 ^ 12 := Nat.pow_le_pow_right (by decide) hk
  omega
theorem k_grant (H : GI T σ μ n pl B E) (hB : B < 262144) (x c : Int32) : ∃ T', (q_grant σ x c (n 8) = 0 → GI T' (u_grant σ x c) (z_pay μ (σ 24 x.toNatClampNeg).toNatClampNeg 5 (z_cost σ x.toNatClampNeg)) n pl (B + 1) E) ∧ SW T T' ∧ (tN T 12 0 ≤ tN T' 12 0 ∧ tN T' 12 0 ≤ 262144 ∧ (¬ q_grant σ x c (n 8) = 0 → tN T' 12 0 = tN T 12 0)) ∧
    ∀ (ad : Nat → Nat → Nat) (S : PT) (mc ms : Nat) (post : Int32 → PT → Prop) (postX : String → PT → Prop), RC ad (VC n (z_len σ)) S T → 1 + (tN T' 12 0 - tN T 12 0) ≤ mc → 6 + 2 * (tN T' 12 0 - tN T 12 0) ≤ ms →
    (q_grant σ x c (n 8) = 1 → postX "java/lang/IndexOutOfBoundsException" S) → (q_grant σ x c (n 8) = 2 → postX "java/lang/IllegalArgumentException" S) → (q_grant σ x c (n 8) = 3 → postX "java/lang/IllegalStateException" S) →
    (q_grant σ x c (n 8) = 0 → ∀ ad' S', RC ad' (VC n (z_len σ)) S' T' → (∀ k i, k ≠ 12 → ad' k i = ad k i) → post (z_cost σ x.toNatClampNeg) S') → w_X8_grant (ad 9 0) x c S mc ms post postX := by
  have main : ∃ T', (q_grant σ x c (n 8) = 0 → GI T' (u_grant σ x c) (z_pay μ (σ 24 x.toNatClampNeg).toNatClampNeg 5 (z_cost σ x.toNatClampNeg)) n pl (B + 1) E ∧ PMe n (z_len σ) T T' (fun ad S mc ms post => w_X8_permit (ad 9 0) (some (ad 8 x.toNatClampNeg)) c S mc ms post)) ∧ SW T T' ∧ (tN T 12 0 ≤ tN T' 12 0 ∧ tN T' 12 0 ≤ 262144 ∧ (¬ q_grant σ x c (n 8) = 0 → tN T' 12 0 = tN T 12 0)) := by
    by_cases hq : q_grant σ x c (n 8) = 0
    · have hx := lt_wk H.1 (q1v hq).1
      have hc := (q1 (by decide) (q1v hq).2).1
      rw [Classical.not_not] at hc
      obtain ⟨T', G', sw, cc⟩ := g_permit (gp_49 H 0) hB hx hc
      have hl : z_len (up2 σ 49 0 0) = z_len σ := z_len_c (fun i => by rw [up2_f _ _ _ _ (by decide)])
      have ec : z_cost (up2 σ 49 0 0) x.toNatClampNeg = z_cost σ x.toNatClampNeg := by unfold z_cost; simp only [up2_f, ne_eq, Nat.reduceEqDiff, not_false_eq_true]
      rw [up2_f _ _ _ _ (show 24 ≠ 49 by decide), ec] at G'
      rw [hl] at cc
      exact ⟨T', fun _ => ⟨G', cc⟩, sw, cc.1, cap_le G', fun h => absurd hq h⟩
    · exact ⟨T, fun h => absurd h hq, ⟨rfl, rfl⟩, Nat.le_refl _, cap_le H, fun _ => rfl⟩
  obtain ⟨T', hmain, sw, hcap⟩ := main
  refine ⟨T', fun h => (hmain h).1, sw, hcap, ?_⟩
  intro ad S mc ms post postX R hmc hms hx1 hx2 hx3 h
  unfold w_X8_grant w_X8_grant_b29 w_X8_grant_b54
  have hm0 := hmain
  unfold q_grant at hx1 hx2 hx3 h hm0
  refine ⟨(RC_o9 R VC_9).1, ?_⟩
  rw [k_worksAt R H.1]
  by_cases hv : 0 ≤ x ∧ x ≤ σ 23 0 - 1
  · rw [iT_T hv]
    obtain ⟨k, hk, rfl, hk2⟩ := wk_n H.1 hv
    rw [iT_F (show ¬ ¬ _ from fun n => n hv)] at h hx2 hx3 hm0
    rw [qn_nat hk2] at h hx3 hm0 ⊢
    refine ⟨fun e => (by cases e), fun a e => ?_⟩
    cases e
    have bad : ¬ (0 ≤ c ∧ c ≤ 3) → 0 ≤ mc ∧ 0 ≤ ms ∧ 0 + 1 ≤ mc ∧ 0 + 6 ≤ ms ∧ postX "java/lang/IllegalArgumentException" S := fun hn => ⟨by omega, by omega, by omega, by omega, hx2 (iT_T hn)⟩
    refine ⟨fun hc => bad (fun z => by have := z.1; rw [← not_lt32] at this; exact this hc), fun hc => ⟨fun hc3 => ⟨(RC_o8 R (VC_8 hk)).1, ?_⟩, fun hc3 => bad (fun z => hc3 z.2)⟩⟩
    have hcc : 0 ≤ c ∧ c ≤ 3 := ⟨by rw [← not_lt32]; exact hc, hc3⟩
    rw [iT_F (show ¬ ¬ _ from fun n => n hcc)] at h hx3 hm0
    have d10 := (H.1.2.2.2.1 k hk).1.2.2.2.2.2.2.2.2.2.2.1
    have o10 := (RC_o8 R (VC_8 (len := z_len σ) hk)).2.2.2.2.2.2.2.2.2.2.2.1
    rw [o10, d10]
    have bad3 : (¬ σ 33 k = 0 ∨ ¬ z_bars σ k (n 8) ≤ 0) → 0 ≤ mc ∧ 0 ≤ ms ∧ 0 + 1 ≤ mc ∧ 0 + 6 ≤ ms ∧ postX "java/lang/IllegalStateException" S := fun hn => ⟨by omega, by omega, by omega, by omega, hx3 (iT_T hn)⟩
    have zb : ¬ z_bars σ k (n 8) = 0 → ¬ z_bars σ k (n 8) ≤ 0 := by
      unfold z_bars
      intro h0
      have p : ∀ v : Int32, (v = 0 ∨ v = 1 ∨ v = 2 ∨ v = 3) → ¬ v = 0 → ¬ v ≤ 0 := by
        rintro v (rfl | rfl | rfl | rfl) hv
        · exact absurd rfl hv
        all_goals decide
      refine p _ ?_ h0
      refine iT_ind (fun v : Int32 => v = 0 ∨ v = 1 ∨ v = 2 ∨ v = 3) (fun _ => Or.inl rfl) (fun _ => iT_ind (fun v : Int32 => v = 0 ∨ v = 1 ∨ v = 2 ∨ v = 3) (fun _ => Or.inr (Or.inl rfl)) (fun _ => iT_ind (fun v : Int32 => v = 0 ∨ v = 1 ∨ v = 2 ∨ v = 3) (fun _ => Or.inr (Or.inr (Or.inl rfl))) (fun _ => iT_ind (fun v : Int32 => v = 0 ∨ v = 1 ∨ v = 2 ∨ v = 3) (fun _ => Or.inr (Or.inr (Or.inr rfl))) (fun _ => Or.inl rfl))))
    refine ⟨fun h0 => bad3 (Or.inl h0), fun h0 => ⟨(RC_o9 R VC_9).1, ?_⟩⟩
    refine k_whatBars R H.1 hk ⟨fun hb => ⟨(RC_o9 R VC_9).1, tN T' 12 0 - tN T 12 0, 2 * (tN T' 12 0 - tN T 12 0), by omega, by omega, ?_⟩, fun hb => bad3 (Or.inr (zb hb))⟩
    have hno : ¬ (¬ σ 33 k = 0 ∨ ¬ z_bars σ k (n 8) ≤ 0) := fun z => z.elim (fun y => y h0) (fun y => y (by rw [hb]; decide))
    obtain ⟨G', cc⟩ := hm0 (iT_F hno)
    refine cc.2 ad S _ _ _ R (Nat.le_refl _) (Nat.le_refl _) (fun ad' S' R' e => ?_)
    rw [← e 8 k (by decide)]
    have hl : z_len (u_grant σ (nI k) c) = z_len σ := z_len_c (fun i => by unfold u_grant; rw [up2_f _ _ _ _ (by decide), up2_f _ _ _ _ (by decide), up2_f _ _ _ _ (by decide)])
    have ec : z_cost (u_grant σ (nI k) c) k = z_cost σ k := by unfold z_cost u_grant; simp only [up2_f, ne_eq, Nat.reduceEqDiff, not_false_eq_true]
    have hs := (G'.1.2.2.2.2.2.2.1.2.2.1 k hk).1
    have R3 := R'
    rw [← hl] at R3
    refine ⟨(RC_o8 R3 (VC_8 hk)).1, ?_⟩
    rw [k_permitCost R3 hk (G'.1.2.2.2.1 k hk).1 hs (G'.1.2.2.1 _ hs), ec]
    exact h (iT_F hno) ad' S' R' e
  · rw [iT_F hv]
    exact ⟨fun _ => ⟨by omega, by omega, hx1 (iT_T hv)⟩, fun a e => (by cases e)⟩
end C
