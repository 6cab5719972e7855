/-! each call on both sides -/
def Z1 (q : Int32) : Prop := q = 0 ∨ q = 1
def Z2 (q : Int32) : Prop := q = 0 ∨ q = 1 ∨ q = 2
def Z3 (q : Int32) : Prop := q = 0 ∨ q = 1 ∨ q = 2 ∨ q = 3
theorem Z_iT {Z : Int32 → Prop} {P : Prop} {a b : Int32} (ha : Z a) (hb : Z b) : Z (iT P a b) := iT_ind Z (fun _ => ha) (fun _ => hb)
theorem nf_nI {σ : SG} (B : IB σ) (f : Nat) (h0 : bl f = 0) : σ f 0 = nI (σ f 0).toNatClampNeg ∧ ((σ f 0).toNatClampNeg : Int) ≤ bh f := by
  obtain ⟨k, e, h1, h2⟩ := IB_nI B f 0 h0
  rw [e, qn_nat h2]
  exact ⟨rfl, h1⟩
theorem hPxA3 {q : Int32} (h : Z3 q) (post : Int32 → PT → Prop) (S : PT) (hq : ¬ q = 0) (hp : post q S) : (xA q = "java/lang/IndexOutOfBoundsException" ∧ post 1 S) ∨ (xA q = "java/lang/IllegalArgumentException" ∧ post 2 S) ∨ (xA q = "java/lang/IllegalStateException" ∧ post 3 S) := by
  rcases h with rfl | rfl | rfl | rfl
  · exact absurd rfl hq
  · exact Or.inl ⟨xA_1, hp⟩
  · exact Or.inr (Or.inl ⟨xA_2, hp⟩)
  · exact Or.inr (Or.inr (⟨xA_3, hp⟩))
theorem hPxB2 {q : Int32} (h : Z2 q) (post : Int32 → PT → Prop) (S : PT) (hq : ¬ q = 0) (hp : post q S) : (xQ q = "java/lang/IndexOutOfBoundsException" ∧ post 1 S) ∨ (xQ q = "java/lang/IllegalStateException" ∧ post 2 S) := by
  rcases h with rfl | rfl | rfl
  · exact absurd rfl hq
  · exact Or.inl ⟨xB_1, hp⟩
  · exact Or.inr (⟨xB_2, hp⟩)
theorem hPxC2 {q : Int32} (h : Z2 q) (post : Int32 → PT → Prop) (S : PT) (hq : ¬ q = 0) (hp : post q S) : (xC q = "java/lang/IndexOutOfBoundsException" ∧ post 1 S) ∨ (xC q = "java/lang/IllegalArgumentException" ∧ post 2 S) := by
  rcases h with rfl | rfl | rfl
  · exact absurd rfl hq
  · exact Or.inl ⟨xC_1, hp⟩
  · exact Or.inr (⟨xC_2, hp⟩)
theorem hPxE2 {q : Int32} (h : Z2 q) (post : Int32 → PT → Prop) (S : PT) (hq : ¬ q = 0) (hp : post q S) : (xE q = "java/lang/IllegalArgumentException" ∧ post 1 S) ∨ (xE q = "java/lang/IllegalStateException" ∧ post 2 S) := by
  rcases h with rfl | rfl | rfl
  · exact absurd rfl hq
  · exact Or.inl ⟨xE_1, hp⟩
  · exact Or.inr (⟨xE_2, hp⟩)
theorem hPxB1 {q : Int32} (h : Z1 q) (post : Int32 → PT → Prop) (S : PT) (hq : ¬ q = 0) (hp : post q S) : (xQ q = "java/lang/IndexOutOfBoundsException" ∧ post 1 S) := by
  rcases h with rfl | rfl
  · exact absurd rfl hq
  · exact ⟨xB_1, hp⟩
section C
variable {e0 x o : Nat} {S : PT} {σ : SG} {μ : MU} {C cap : Nat}
end C
section C
variable {e0 m0 x o m : Nat} {A : Nat → Nat} {S SM : PT} {σ : SG} {μ : MU} {C cap c s : Nat} {K : PT → PT → Nat → Nat → Prop}
end C
