/-! calls that set other fields of works -/
section C
variable {ad : Nat → Nat → Nat} {S : PT} {T : CT} {σ : SG} {n : Nat → Nat}
theorem k_vary (R : RC ad (VC n (z_len σ)) S T) (H : DQ T σ n) (x c : Int32) {mc ms : Nat} (h1 : 1 ≤ mc) (h6 : 6 ≤ ms) {post : Int32 → PT → Prop} {postX : String → PT → Prop}
    (hx1 : q_vary σ x c = 1 → postX "java/lang/IndexOutOfBoundsException" S) (hx2 : q_vary σ x c = 2 → postX "java/lang/IllegalArgumentException" S) (hx3 : q_vary σ x c = 3 → postX "java/lang/IllegalStateException" S)
    (h : q_vary σ x c = 0 → ∀ S', RC ad (VC n (z_len σ)) S' (uI (uI T 811 x.toNatClampNeg c) 812 x.toNatClampNeg (σ 35 x.toNatClampNeg + 1)) → post (σ 35 x.toNatClampNeg + 1) S') : w_X8_vary (ad 9 0) x c S mc ms post postX := by
  unfold w_X8_vary w_X8_vary_b29
  unfold q_vary at hx1 hx2 hx3 h
  refine ⟨(RC_o9 R VC_9).1, ?_⟩
  rw [k_worksAt R H]
  by_cases hv : 0 ≤ x ∧ x ≤ σ 23 0 - 1
  · rw [iT_T hv]
    obtain ⟨k, hk, rfl, hk2⟩ := wk_n H hv
    rw [qn_nat hk2] at h hx2 hx3 ⊢
    rw [iT_F (show ¬ ¬ _ from fun n => n hv)] at h hx2 hx3
    refine ⟨fun e => (by cases e), fun a e => ?_⟩
    cases e
    have D := (H.2.2.2.1 k hk).1
    have d12 : tI T 812 k = σ 35 k := D.2.2.2.2.2.2.2.2.2.2.2.2.1
    have bad : ¬ (0 ≤ c ∧ c ≤ 3) → 0 ≤ mc ∧ 0 ≤ ms ∧ 0 + 1 ≤ mc ∧ 0 + 6 ≤ ms ∧ postX "java/lang/IllegalArgumentException" S := fun hn => ⟨by omega, by omega, by omega, by omega, hx2 (iT_T hn)⟩
    refine ⟨fun hc => bad (fun z => by have := z.1; rw [← not_lt32] at this; exact this hc), fun hc => ⟨fun hc3 => ⟨(RC_o8 R (VC_8 hk)).1, ?_⟩, fun hc3 => bad (fun z => hc3 z.2)⟩⟩
    have hcc : 0 ≤ c ∧ c ≤ 3 := ⟨by rw [← not_lt32]; exact hc, hc3⟩
    rw [iT_F (show ¬ ¬ _ from fun n => n hcc)] at h hx3
    rw [k_isStanding R hk D, bI_0]
    refine ⟨fun ho => ⟨(RC_o8 R (VC_8 hk)).1, ?_⟩, fun ho => ⟨by omega, by omega, hx3 (iT_T ho)⟩⟩
    refine RC_uI R (VC_8 hk) 11 rfl (by decide) (by decide) (fun S1 R1 => ?_)
    have e12 : gI S1 812 (ad 8 k) = σ 35 k := by
      rw [(RC_o8 R1 (VC_8 hk)).2.2.2.2.2.2.2.2.2.2.2.2.2.1, tI_o (by decide), d12]
    rw [e12]
    refine RC_uI R1 (VC_8 hk) 12 rfl (by decide) (by decide) (fun S2 R2 => ?_)
    have g := h (iT_F ho) S2 R2
    rw [(RC_o8 R2 (VC_8 hk)).2.2.2.2.2.2.2.2.2.2.2.2.2.1, tI_s]
    exact g
  · rw [iT_F hv]
    exact ⟨fun _ => ⟨by omega, by omega, hx1 (iT_T hv)⟩, fun a e => (by cases e)⟩
theorem p_vary (H : DQ T σ n) {x c : Int32} (hc : 0 ≤ c ∧ c ≤ 3) : DQ (uI (uI T 811 x.toNatClampNeg c) 812 x.toNatClampNeg (σ 35 x.toNatClampNeg + 1)) (u_vary σ x c) n := by
  have c1 := hc.1
  have c2 := hc.2
  rw [ile, I0] at c1
  rw [ile, show (3 : Int32).toInt = 3 from by decide] at c2
  exact p_wk (p_wk (p_49 H 0) (Or.inr (Or.inl ⟨rfl, rfl⟩)) (by simp only [bl]; exact c1) (by simp only [bh]; exact c2)) (Or.inr (Or.inr (Or.inl ⟨rfl, rfl⟩))) (Ilo _) (by have := Ihi (σ 35 x.toNatClampNeg + 1); simp only [bh]; omega)
theorem k_exempt (R : RC ad (VC n (z_len σ)) S T) (H : DQ T σ n) (x : Int32) {mc ms : Nat} (h1 : 1 ≤ mc) (h6 : 6 ≤ ms) {post : Int32 → PT → Prop} {postX : String → PT → Prop}
    (hx1 : q_exempt σ x = 1 → postX "java/lang/IndexOutOfBoundsException" S)
    (h : q_exempt σ x = 0 → ∀ S', RC ad (VC n (z_len σ)) S' (uI T 817 x.toNatClampNeg (iT (σ 38 x.toNatClampNeg = 0) 1 0)) → post (iT (σ 38 x.toNatClampNeg = 0) 1 0) S') : w_X8_exempt (ad 9 0) x S mc ms post postX := by
  unfold w_X8_exempt w_X8_exempt_b33
  unfold q_exempt at hx1 h
  refine ⟨(RC_o9 R VC_9).1, ?_⟩
  rw [k_worksAt R H]
  by_cases hv : 0 ≤ x ∧ x ≤ σ 23 0 - 1
  · rw [iT_T hv]
    obtain ⟨k, hk, rfl, hk2⟩ := wk_n H hv
    have h9 := h (iT_F (fun z => z hv))
    rw [qn_nat hk2] at h9 ⊢
    refine ⟨fun e => (by cases e), fun a e => ?_⟩
    cases e
    have D := (H.2.2.2.1 k hk).1
    have d17 : tI T 817 k = σ 38 k := D.2.2.2.2.2.2.2.2.2.2.2.2.2.2.2.2
    have all : ∀ v : Int32, bo v → v = iT (σ 38 k = 0) 1 0 → ∀ S5, S5 = sI S 817 (ad 8 k) v → ∃ a7, some (ad 8 k) = some a7 ∧ gK S5 a7 = 8 ∧ bo (gI S5 817 a7) ∧ post (gI S5 817 a7) S5 := by
      intro v hb hv2
      refine RC_uI R (VC_8 hk) 17 rfl (by decide) (by decide) (fun S1 R1 => ?_)
      have e17 : gI S1 817 (ad 8 k) = v := by
        have o := (RC_o8 R1 (VC_8 hk)).2.2.2.2.2.2.2.2.2.2.2.2.2.2.2.2.2.2
        rw [o, tI_s]
      refine ⟨_, rfl, (RC_o8 R1 (VC_8 hk)).1, ?_⟩
      rw [e17]
      rw [hv2] at R1 ⊢
      exact ⟨bo_iT, h9 S1 R1⟩
    have o17 := (RC_o8 R (VC_8 hk)).2.2.2.2.2.2.2.2.2.2.2.2.2.2.2.2.2.2
    refine ⟨(RC_o8 R (VC_8 hk)).1, ?_⟩
    rw [o17, d17]
    exact ⟨fun h0 => ⟨by omega, by omega, _, rfl, (RC_o8 R (VC_8 hk)).1, bo_0, all 0 bo_0 (by rw [iT_F h0])⟩, fun h0 => ⟨by omega, by omega, _, rfl, (RC_o8 R (VC_8 hk)).1, bo_1, all 1 bo_1 (by rw [iT_T h0])⟩⟩
  · rw [iT_F hv]
    exact ⟨fun _ => ⟨by omega, by omega, hx1 (iT_T hv)⟩, fun a e => (by cases e)⟩
theorem iT01 {P : Prop} : 0 ≤ (iT P 1 0 : Int32).toInt ∧ (iT P 1 0 : Int32).toInt ≤ 1 := iT_ind (fun y : Int32 => 0 ≤ y.toInt ∧ y.toInt ≤ 1) (fun _ => by decide) (fun _ => by decide)
theorem p_exempt (H : DQ T σ n) (x : Int32) : DQ (uI T 817 x.toNatClampNeg (iT (σ 38 x.toNatClampNeg = 0) 1 0)) (u_exempt σ x) n := p_wk (p_49 H 0) (Or.inr (Or.inr (Or.inr (Or.inr (Or.inr ⟨rfl, rfl⟩))))) iT01.1 iT01.2
end C
