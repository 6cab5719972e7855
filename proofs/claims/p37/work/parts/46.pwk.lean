/-! one field of works is set, on both sides -/
section C
variable {ad : Nat → Nat → Nat} {S : PT} {T : CT} {σ : SG} {n : Nat → Nat}
theorem tP_u {F i : Nat} {v : Int32} : tP (uI T F i v) = tP T := rfl
theorem p_49 (H : DQ T σ n) (t : Int32) : DQ T (up2 σ 49 0 t) n := by
  obtain ⟨h1, h9, h5, h8, h7, h3, hv, hb⟩ := H
  have e : ∀ g, g ≠ 49 → up2 σ 49 0 t g = σ g := fun g a => sg_o a
  have hl : z_len (up2 σ 49 0 t) = z_len σ := z_len_c (fun j => by rw [e 2 (by decide)])
  exact ⟨DN_c (by rw [e 1 (by decide)]) (by rw [e 14 (by decide)]) (by rw [e 23 (by decide)]) (by rw [e 40 (by decide)]) h1,
    D9_c (fun _ _ => rfl) (fun _ _ => rfl) rfl (fun _ _ _ => rfl) (by rw [e 0 (by decide)]) h9,
    fun j hj => D5_c (fun _ _ _ _ => rfl) (fun _ _ => rfl) rfl rfl (fun f a b _ => by rw [e f (by omega)]) (h5 j hj),
    fun k hk => ⟨D8_c (fun _ _ => rfl) (fun _ _ => rfl) (fun f a b => by rw [e f (by omega)]) (z_opens_49 σ t _) (h8 k hk).1, D8a_c rfl (e 39 (by decide)) (h8 k hk).2⟩,
    fun s hs => D7_c (fun _ _ => rfl) (fun _ _ => rfl) (fun f a b => by rw [e f (by omega)]) (e 2 (by decide)) (h7 s hs),
    fun j i hj hi => D3_c (fun _ _ => rfl) rfl (by rw [e 12 (by decide)]) (by rw [e 13 (by decide)]) (e 41 (by decide)) (h3 j i hj (by rw [hl] at hi; exact hi)),
    DV_c (fun f hf => e f (by omega)) hv, IB_49 hb t⟩
theorem p_wk (H : DQ T σ n) {k : Nat} {v : Int32} {F f : Nat} (hp : (F = 810 ∧ f = 33) ∨ (F = 811 ∧ f = 34) ∨ (F = 812 ∧ f = 35) ∨ (F = 813 ∧ f = 36) ∨ (F = 816 ∧ f = 37) ∨ (F = 817 ∧ f = 38)) (b1 : bl f ≤ v.toInt) (b2 : v.toInt ≤ bh f) : DQ (uI T F k v) (up2 σ f k v) n := by
  obtain ⟨h1, h9, h5, h8, h7, h3, hv, hb⟩ := H
  have hF : 810 ≤ F ∧ F ≤ 817 ∧ F ≠ 814 := by omega
  have hf : 33 ≤ f ∧ f ≤ 38 := by omega
  have e : ∀ g, g ≠ f → up2 σ f k v g = σ g := fun g a => sg_o a
  have hl : z_len (up2 σ f k v) = z_len σ := z_len_c (fun j => by rw [e 2 (by omega)])
  have ho : ∀ x, z_opens (up2 σ f k v) x = z_opens σ x := fun x => by unfold z_opens; rw [e 13 (by omega)]
  refine ⟨DN_c (by rw [e 1 (by omega)]) (by rw [e 14 (by omega)]) (by rw [e 23 (by omega)]) (by rw [e 40 (by omega)]) h1,
    D9_c (fun G hG => sg_o (σ := tI T) (by omega)) (fun _ _ => rfl) rfl (fun _ _ _ => rfl) (by rw [e 0 (by omega)]) h9,
    fun j hj => D5_c (fun G hG _ _ => tI_o (by omega)) (fun _ _ => rfl) rfl rfl (fun g a b _ => by rw [e g (by omega)]) (h5 j hj),
    fun l hl2 => ⟨?_, D8a_c (tI_o (by omega)) (e 39 (by omega)) (h8 l hl2).2⟩,
    fun s hs => D7_c (fun G hG => tI_o (by omega)) (fun _ _ => rfl) (fun g a b => by rw [e g (by omega)]) (e 2 (by omega)) (h7 s hs),
    fun j i hj hi => D3_c (fun G hG => tI_o (by omega)) rfl (by rw [e 12 (by omega)]) (by rw [e 13 (by omega)]) (e 41 (by omega)) (h3 j i hj (by rw [hl] at hi; exact hi)),
    DV_c (fun g hg => e g (by omega)) hv, IB_up hb f k b1 b2⟩
  by_cases hx : l = k
  · subst hx
    have D := (h8 l hl2).1
    unfold D8 z_last at D ⊢
    rw [ho]
    obtain ⟨d0, d1, d2, d3, d4, d5, d6, d7, d8, d9, d10, d11, d12, d13, d15, d16, d17⟩ := D
    rcases hp with ⟨rfl, rfl⟩ | ⟨rfl, rfl⟩ | ⟨rfl, rfl⟩ | ⟨rfl, rfl⟩ | ⟨rfl, rfl⟩ | ⟨rfl, rfl⟩
    all_goals
      simp only [tI_s, tI_o, tP_u, up2_s, up2_f, ne_eq, Nat.reduceEqDiff, not_false_eq_true, d0, d1, d2, d3, d4, d5, d6, d7, d8, d9, d10, d11, d12, d13, d15, d16, d17, and_self]
  · exact D8_c (fun G hG => tI_i hx) (fun _ _ => rfl) (fun g a b => by
      by_cases hg : g = f
      · subst hg; rw [up2_i _ _ hx]
      · rw [e g hg]) (ho _) (h8 l hl2).1
end C
