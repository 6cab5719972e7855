/-! calls that set the state of works -/
section C
variable {ad : Nat → Nat → Nat} {S : PT} {T : CT} {σ : SG} {n : Nat → Nat}
theorem k_refuse (R : RC ad (VC n (z_len σ)) S T) (H : DQ T σ n) (x : Int32) {mc ms : Nat} (h1 : 1 ≤ mc) (h6 : 6 ≤ ms) {post : Int32 → PT → Prop} {postX : String → PT → Prop}
    (hx1 : q_refuse σ x = 1 → postX "java/lang/IndexOutOfBoundsException" S) (hx2 : q_refuse σ x = 2 → postX "java/lang/IllegalStateException" S)
    (h : q_refuse σ x = 0 → ∀ S', RC ad (VC n (z_len σ)) S' (uI T 810 x.toNatClampNeg 2) → post (σ 33 x.toNatClampNeg) S') : w_X8_refuse (ad 9 0) x S mc ms post postX := by
  unfold w_X8_refuse w_X8_refuse_b45
  unfold q_refuse at hx1 hx2 h
  refine ⟨(RC_o9 R VC_9).1, ?_⟩
  rw [k_worksAt R H]
  by_cases hv : 0 ≤ x ∧ x ≤ σ 23 0 - 1
  · rw [iT_T hv]
    obtain ⟨k, hk, rfl, hk2⟩ := wk_n H hv
    rw [qn_nat hk2] at h hx2 ⊢
    rw [iT_F (show ¬ ¬ _ from fun n => n hv)] at h hx2
    refine ⟨fun e => (by cases e), fun a e => ?_⟩
    cases e
    obtain ⟨-, -, -, -, -, -, -, -, -, -, d10, -⟩ := (H.2.2.2.1 k hk).1
    have good : ¬ (¬ σ 33 k = 0 ∧ ¬ σ 33 k = 1) → ∀ S', S' = sI S 810 (ad 8 k) 2 → post (σ 33 k) S' := fun hn => RC_uI R (VC_8 hk) 10 rfl (by decide) (by decide) (fun S' R' => h (iT_F hn) S' R')
    simp only [RC_o8 R (VC_8 hk), d10, true_and, Option.some.injEq, exists_eq_left']
    exact ⟨fun h0 => ⟨by omega, by omega, good (fun z => z.1 h0)⟩, fun h0 => ⟨fun h10 => ⟨by omega, by omega, good (fun z => z.2 h10)⟩, fun h10 => ⟨by omega, by omega, hx2 (iT_T ⟨h0, h10⟩)⟩⟩⟩
  · rw [iT_F hv]
    exact ⟨fun _ => ⟨by omega, by omega, hx1 (iT_T hv)⟩, fun a e => (by cases e)⟩
theorem p_refuse (H : DQ T σ n) (x : Int32) : DQ (uI T 810 x.toNatClampNeg 2) (u_refuse σ x) n := p_wk (p_49 H 0) (Or.inl ⟨rfl, rfl⟩) (by decide) (by decide)
theorem k_start (R : RC ad (VC n (z_len σ)) S T) (H : DQ T σ n) (x : Int32) {mc ms : Nat} (h1 : 1 ≤ mc) (h6 : 6 ≤ ms) {post : Int32 → PT → Prop} {postX : String → PT → Prop}
    (hx1 : q_start σ x = 1 → postX "java/lang/IndexOutOfBoundsException" S) (hx2 : q_start σ x = 2 → postX "java/lang/IllegalStateException" S)
    (h : q_start σ x = 0 → ∀ S', RC ad (VC n (z_len σ)) S' (uI T 810 x.toNatClampNeg 3) → post (z_last σ x.toNatClampNeg) S') : w_X8_start (ad 9 0) x S mc ms post postX := by
  unfold w_X8_start w_X8_start_b50
  unfold q_start at hx1 hx2 h
  refine ⟨(RC_o9 R VC_9).1, ?_⟩
  rw [k_worksAt R H]
  by_cases hv : 0 ≤ x ∧ x ≤ σ 23 0 - 1
  · rw [iT_T hv]
    obtain ⟨k, hk, rfl, hk2⟩ := wk_n H hv
    rw [qn_nat hk2] at h hx2 ⊢
    rw [iT_F (show ¬ ¬ _ from fun n => n hv)] at h hx2
    refine ⟨fun e => (by cases e), fun a e => ?_⟩
    cases e
    obtain ⟨-, -, -, -, -, -, -, -, d8, d9, d10, -⟩ := (H.2.2.2.1 k hk).1
    have bad : (¬ σ 33 k = 1 ∨ ¬ (σ 30 k ≤ z_today σ ∧ z_today σ ≤ z_last σ k)) → 0 ≤ mc ∧ 0 ≤ ms ∧ 0 + 1 ≤ mc ∧ 0 + 6 ≤ ms ∧ postX "java/lang/IllegalStateException" S := fun hn => ⟨by omega, by omega, by omega, by omega, hx2 (iT_T hn)⟩
    simp only [RC_o8 R (VC_8 hk), RC_o9 R VC_9, k_today R H, d8, d9, d10, true_and]
    refine ⟨fun h0 => bad (Or.inl h0), fun h0 => ⟨fun hf => bad (Or.inr (fun z => by have := z.1; rw [← not_lt32] at this; exact this hf)), fun hf => ⟨fun hl => ?_, fun hl => bad (Or.inr (fun z => hl z.2))⟩⟩⟩
    refine RC_uI R (VC_8 hk) 10 rfl (by decide) (by decide) (fun S' R' => ?_)
    have g := h (iT_F (fun z => z.elim (fun y => y h0) (fun y => y ⟨by rw [← not_lt32]; exact hf, hl⟩))) S' R'
    rw [(RC_o8 R' (VC_8 hk)).2.2.2.2.2.2.2.2.2.2.1, tI_o (by decide), d9]
    exact g
  · rw [iT_F hv]
    exact ⟨fun _ => ⟨by omega, by omega, hx1 (iT_T hv)⟩, fun a e => (by cases e)⟩
theorem p_start (H : DQ T σ n) (x : Int32) : DQ (uI T 810 x.toNatClampNeg 3) (u_start σ x) n := p_wk (p_49 H 0) (Or.inl ⟨rfl, rfl⟩) (by decide) (by decide)
end C
