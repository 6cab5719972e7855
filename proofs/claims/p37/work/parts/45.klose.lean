/-! losing a record: the pattern of a call that changes one field -/
section C
variable {ad : Nat → Nat → Nat} {S : PT} {T : CT} {σ : SG} {n : Nat → Nat}
theorem tI_o {F i G j : Nat} {v : Int32} (h : G ≠ F) : tI (uI T F i v) G j = tI T G j := by
  show up2 (tI T) F i v G j = _
  rw [up2_f _ _ _ _ h]
theorem tI_i {F i G j : Nat} {v : Int32} (h : j ≠ i) : tI (uI T F i v) G j = tI T G j := by
  show up2 (tI T) F i v G j = _
  rw [up2_i _ _ h]
theorem tI_s {F i : Nat} {v : Int32} : tI (uI T F i v) F i = v := up2_s _ _ _ _
theorem sg_o {f i g : Nat} {v : Int32} (h : g ≠ f) : up2 σ f i v g = σ g := by funext j; rw [up2_f _ _ _ _ h]
theorem p_lose (H : DQ T σ n) {x : Int32} (hq : q_lose σ x = 0) : DQ (uI T 705 x.toNatClampNeg 0) (u_lose σ x) n := by
  obtain ⟨h1, h9, h5, h8, h7, h3, hv, hb⟩ := H
  have e : ∀ g, g ≠ 20 → g ≠ 49 → u_lose σ x g = σ g := fun g a b => by unfold u_lose; rw [sg_o a, sg_o b]
  have hl : z_len (u_lose σ x) = z_len σ := z_len_c (fun j => by rw [e 2 (by decide) (by decide)])
  unfold q_lose at hq
  refine ⟨DN_c (by rw [e 1 (by decide) (by decide)]) (by rw [e 14 (by decide) (by decide)]) (by rw [e 23 (by decide) (by decide)]) (by rw [e 40 (by decide) (by decide)]) h1,
    D9_c (fun F hF => sg_o (σ := tI T) (f := 705) (by omega)) (fun _ _ => rfl) rfl (fun _ _ _ => rfl) (by rw [e 0 (by decide) (by decide)]) h9,
    fun j hj => D5_c (fun F hF _ _ => tI_o (by omega)) (fun _ _ => rfl) rfl rfl (fun f a b _ => by rw [e f (by omega) (by omega)]) (h5 j hj),
    fun k hk => ⟨D8_c (fun F hF => tI_o (by omega)) (fun _ _ => rfl) (fun f a b => by rw [e f (by omega) (by omega)]) (by unfold z_opens; rw [e 13 (by decide) (by decide)]) (h8 k hk).1, D8a_c (tI_o (by decide)) (e 39 (by decide) (by decide)) (h8 k hk).2⟩,
    fun t ht => ?_, fun j i hj hi => D3_c (fun F hF => tI_o (by omega)) rfl (by rw [e 12 (by decide) (by decide)]) (by rw [e 13 (by decide) (by decide)]) (e 41 (by decide) (by decide)) (h3 j i hj (by rw [hl] at hi; exact hi)),
    DV_c (fun f hf => e f (by omega) (by omega)) hv, ?_⟩
  · by_cases hx : t = x.toNatClampNeg
    · subst hx
      obtain ⟨a0, a1, a2, a3, a4, -, -⟩ := h7 _ ht
      have e20 : u_lose σ x 20 x.toNatClampNeg = 0 := up2_s _ _ _ _
      unfold D7
      rw [e 15 (by decide) (by decide), e 16 (by decide) (by decide), e 17 (by decide) (by decide), e 18 (by decide) (by decide), e 19 (by decide) (by decide), e20]
      exact ⟨by rw [tI_o (by decide)]; exact a0, a1, by rw [tI_o (by decide)]; exact a2, by rw [tI_o (by decide)]; exact a3, by rw [tI_o (by decide)]; exact a4, tI_s, fun hn => absurd rfl hn⟩
    · exact D7_c (fun F hF => tI_i hx) (fun _ _ => rfl) (fun f a b => by
        by_cases h20 : f = 20
        · subst h20; unfold u_lose; rw [up2_i _ _ hx, up2_f _ _ _ _ (by decide)]
        · rw [e f h20 (by omega)]) (e 2 (by decide) (by decide)) (h7 t ht)
  · unfold u_lose
    exact IB_up (v := 0) (IB_49 hb 0) 20 _ (by decide) (by decide)
theorem k_lose (R : RC ad (VC n (z_len σ)) S T) (H : DQ T σ n) (x : Int32) {mc ms : Nat} (h1 : 1 ≤ mc) (h6 : 6 ≤ ms) {post : Int32 → PT → Prop} {postX : String → PT → Prop}
    (hx1 : q_lose σ x = 1 → postX "java/lang/IndexOutOfBoundsException" S) (h : q_lose σ x = 0 → ∀ S', RC ad (VC n (z_len σ)) S' (uI T 705 x.toNatClampNeg 0) → post (σ 20 x.toNatClampNeg) S') : w_X8_lose (ad 9 0) x S mc ms post postX := by
  unfold w_X8_lose
  unfold q_lose at hx1 h
  refine ⟨(RC_o9 R VC_9).1, ?_⟩
  rw [k_thingAt R H]
  by_cases hv : 0 ≤ x ∧ x ≤ σ 14 0 - 1
  · rw [iT_T hv]
    obtain ⟨t, ht, rfl, ht2⟩ := th_n H hv
    have h9 := h (iT_F (fun z => z hv))
    rw [qn_nat ht2] at h9 ⊢
    refine ⟨fun e => (by cases e), fun a e => ?_⟩
    cases e
    obtain ⟨-, -, -, -, -, e5, -⟩ := H.2.2.2.2.1 t ht
    simp only [RC_o7 R (VC_7 ht), e5, true_and, bo_IB H.2.2.2.2.2.2.2 20 t rfl rfl]
    exact RC_uI R (VC_7 ht) 5 rfl (by decide) (by decide) (fun S' R' => h9 S' R')
  · rw [iT_F hv]
    exact ⟨fun _ => ⟨by omega, by omega, hx1 (iT_T hv)⟩, fun a e => (by cases e)⟩
end C
