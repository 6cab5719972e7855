/-! plates, stopping -/
section C
variable {ad : Nat → Nat → Nat} {S : PT} {T : CT} {σ : SG} {n : Nat → Nat}
theorem k_plate (R : RC ad (VC n (z_len σ)) S T) (H : DQ T σ n) (x : Int32) {mc ms : Nat} (h1 : 1 ≤ mc) (h6 : 6 ≤ ms) {post : Int32 → PT → Prop} {postX : String → PT → Prop}
    (hx1 : q_plate σ x = 1 → postX "java/lang/IndexOutOfBoundsException" S) (hx2 : q_plate σ x = 2 → postX "java/lang/IllegalStateException" S)
    (h : q_plate σ x = 0 → ∀ S', RC ad (VC n (z_len σ)) S' (uI T 816 x.toNatClampNeg (iT (σ 37 x.toNatClampNeg = 0) 1 0)) → post (iT (σ 37 x.toNatClampNeg = 0) 1 0) S') : w_X8_plate (ad 9 0) x S mc ms post postX := by
  unfold w_X8_plate w_X8_plate_b52
  unfold q_plate at hx1 hx2 h
  refine ⟨(RC_o9 R VC_9).1, ?_⟩
  rw [k_worksAt R H]
  by_cases hv : 0 ≤ x ∧ x ≤ σ 23 0 - 1
  · rw [iT_T hv]
    obtain ⟨k, hk, rfl, hk2⟩ := wk_n H hv
    rw [qn_nat hk2] at h hx2 ⊢
    rw [iT_F (show ¬ ¬ _ from fun n => n hv)] at h hx2
    refine ⟨fun e => (by cases e), fun a e => ?_⟩
    cases e
    have D := (H.2.2.2.1 k hk).1
    have d10 : tI T 810 k = σ 33 k := D.2.2.2.2.2.2.2.2.2.2.1
    have d16 : tI T 816 k = σ 37 k := D.2.2.2.2.2.2.2.2.2.2.2.2.2.2.2.1
    have o10 := (RC_o8 R (VC_8 hk)).2.2.2.2.2.2.2.2.2.2.2.1
    have o16 := (RC_o8 R (VC_8 hk)).2.2.2.2.2.2.2.2.2.2.2.2.2.2.2.2.2.1
    have all : σ 33 k = 3 → ∀ v : Int32, bo v → v = iT (σ 37 k = 0) 1 0 → ∀ S5, S5 = sI S 816 (ad 8 k) v → ∃ a7, some (ad 8 k) = some a7 ∧ gK S5 a7 = 8 ∧ bo (gI S5 816 a7) ∧ post (gI S5 816 a7) S5 := by
      intro h3 v hb hv2
      have h9 := h (iT_F (fun z => z h3))
      refine RC_uI R (VC_8 hk) 16 rfl (by decide) (by decide) (fun S1 R1 => ?_)
      have e16 : gI S1 816 (ad 8 k) = v := by
        have o := (RC_o8 R1 (VC_8 hk)).2.2.2.2.2.2.2.2.2.2.2.2.2.2.2.2.2.1
        rw [o, tI_s]
      refine ⟨_, rfl, (RC_o8 R1 (VC_8 hk)).1, ?_⟩
      rw [e16]
      rw [hv2] at R1 ⊢
      exact ⟨bo_iT, h9 S1 R1⟩
    refine ⟨(RC_o8 R (VC_8 hk)).1, ?_⟩
    rw [o10, o16, d10, d16]
    exact ⟨fun h3 => ⟨fun h0 => ⟨by omega, by omega, _, rfl, (RC_o8 R (VC_8 hk)).1, bo_0, all h3 0 bo_0 (by rw [iT_F h0])⟩, fun h0 => ⟨by omega, by omega, _, rfl, (RC_o8 R (VC_8 hk)).1, bo_1, all h3 1 bo_1 (by rw [iT_T h0])⟩⟩, fun h3 => ⟨by omega, by omega, hx2 (iT_T h3)⟩⟩
  · rw [iT_F hv]
    exact ⟨fun _ => ⟨by omega, by omega, hx1 (iT_T hv)⟩, fun a e => (by cases e)⟩
theorem p_plate (H : DQ T σ n) (x : Int32) : DQ (uI T 816 x.toNatClampNeg (iT (σ 37 x.toNatClampNeg = 0) 1 0)) (u_plate σ x) n := p_wk (p_49 H 0) (Or.inr (Or.inr (Or.inr (Or.inr (Or.inl ⟨rfl, rfl⟩))))) iT01.1 iT01.2
theorem k_stop (R : RC ad (VC n (z_len σ)) S T) (H : DQ T σ n) (x : Int32) {mc ms : Nat} (h1 : 1 ≤ mc) (h6 : 6 ≤ ms) {post : Int32 → PT → Prop} {postX : String → PT → Prop}
    (hx1 : q_stop σ x = 1 → postX "java/lang/IndexOutOfBoundsException" S) (hx2 : q_stop σ x = 2 → postX "java/lang/IllegalStateException" S)
    (h : q_stop σ x = 0 → ∀ S', RC ad (VC n (z_len σ)) S' (uI (uI T 810 x.toNatClampNeg 4) 816 x.toNatClampNeg 0) → post (z_end σ x.toNatClampNeg - z_last σ x.toNatClampNeg) S') : w_X8_stop (ad 9 0) x S mc ms post postX := by
  unfold w_X8_stop w_X8_stop_b35
  unfold q_stop at hx1 hx2 h
  refine ⟨(RC_o9 R VC_9).1, ?_⟩
  rw [k_worksAt R H]
  by_cases hv : 0 ≤ x ∧ x ≤ σ 23 0 - 1
  · rw [iT_T hv]
    obtain ⟨k, hk, rfl, hk2⟩ := wk_n H hv
    rw [qn_nat hk2] at h hx2 ⊢
    rw [iT_F (show ¬ ¬ _ from fun n => n hv)] at h hx2
    refine ⟨fun e => (by cases e), fun a e => ?_⟩
    cases e
    have D := (H.2.2.2.1 k hk).1
    obtain ⟨-, -, -, -, -, -, -, -, -, d9, d10, -, -, -, d15, -⟩ := D
    have g3 : (nI (z_opens σ (nI k)) ≤ 0) = (z_opens σ (nI k) = 0) := q_le0 (by have := opens_le σ (nI k); omega)
    have bad : (¬ σ 33 k = 3 ∨ ¬ z_opens σ (nI k) = 0) → 0 ≤ mc ∧ 0 ≤ ms ∧ 0 + 1 ≤ mc ∧ 0 + 6 ≤ ms ∧ postX "java/lang/IllegalStateException" S := fun hn => ⟨by omega, by omega, by omega, by omega, hx2 (iT_T hn)⟩
    simp only [RC_o8 R (VC_8 hk), RC_o9 R VC_9, k_today R H, k_endOn R hk (H.2.2.2.1 k hk).1, d9, d10, d15, g3, true_and]
    refine ⟨fun h0 => bad (Or.inl h0), fun h0 => ⟨fun ho => ?_, fun ho => bad (Or.inr ho)⟩⟩
    refine RC_uI R (VC_8 hk) 10 rfl (by decide) (by decide) (fun S1 R1 => ?_)
    refine RC_uI R1 (VC_8 hk) 16 rfl (by decide) (by decide) (fun S2 R2 => ?_)
    exact h (iT_F (fun z => z.elim (fun y => y h0) (fun y => y ho))) S2 R2
  · rw [iT_F hv]
    exact ⟨fun _ => ⟨by omega, by omega, hx1 (iT_T hv)⟩, fun a e => (by cases e)⟩
theorem p_stop (H : DQ T σ n) (x : Int32) : DQ (uI (uI T 810 x.toNatClampNeg 4) 816 x.toNatClampNeg 0) (u_stop σ x) n := p_wk (v := 0) (p_wk (v := 4) (p_49 H 0) (Or.inl ⟨rfl, rfl⟩) (by decide) (by decide)) (Or.inr (Or.inr (Or.inr (Or.inr (Or.inl ⟨rfl, rfl⟩))))) (by decide) (by decide)
end C
