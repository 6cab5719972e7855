/-! the rest of the reference's questions -/
noncomputable def z_bars (σ : SG) (j nW : Nat) : Int32 :=
  iT (σ 29 j = 3) 0
  (iT (¬ σ 8 (σ 25 j).toNatClampNeg = -1 ∧ z_has σ j (σ 8 (σ 25 j).toNatClampNeg) (σ 9 (σ 25 j).toNatClampNeg)) 1
  (iT (¬ σ 6 (σ 25 j).toNatClampNeg = -1 ∧ σ 38 j = 0 ∧ z_has σ j (σ 6 (σ 25 j).toNatClampNeg) (σ 6 (σ 25 j).toNatClampNeg + 99)) 2
  (iT (z_met σ j nW) 3 0)))
noncomputable def z_note (k g : Int32) : Int32 := iT (2 ≤ g) (iT (k = 0) 20 (iT (k = 1) 8 (iT (k = 2) 3 0))) (2 * iT (k = 0) 20 (iT (k = 1) 8 (iT (k = 2) 3 0)))
def z_susB (σ : SG) (t : Nat) (s y : Int32) : Prop := ¬ σ 20 t = 0 ∧ σ 16 t = s ∧ σ 21 t ≤ y ∧ y ≤ σ 22 t
def z_lies (σ : SG) (t : Nat) (s y : Int32) : Prop := σ 16 t = s ∧ σ 17 t ≤ y ∧ y ≤ σ 18 t
noncomputable def z_opens (σ : SG) (x : Int32) : Nat := cN (fun q => σ 13 q = x) 240
def z_takes (σ : SG) (k : Nat) : Prop := σ 33 k = 3 ∧ σ 37 k = 0 ∧ ¬ z_opens σ (nI k) = 0
/-- the last of those below n that is so; -1: none -/
noncomputable def laN (P : Nat → Prop) : Nat → Int32
  | 0 => -1
  | n + 1 => iT (P n) (nI n) (laN P n)
theorem laN_in (P : Nat → Prop) : ∀ n, laN P n = -1 ∨ ∃ k, k < n ∧ P k ∧ laN P n = nI k
  | 0 => Or.inl rfl
  | n + 1 => by
    unfold laN
    by_cases e : P n
    · rw [iT_T e]; exact Or.inr ⟨n, by omega, e, rfl⟩
    · rw [iT_F e]
      rcases laN_in P n with h | ⟨k, hk, h⟩
      · exact Or.inl h
      · exact Or.inr ⟨k, by omega, h⟩
section Q
variable {A : Nat → Nat} {m : Nat} {S : PT} {σ : SG} {μ : MU}
end Q
