/-! the state's bounds -/
def bl (f : Nat) : Int := if f = 5 ∨ f = 6 ∨ f = 8 ∨ f = 13 then -1 else if f = 21 then -3 else if f = 10 ∨ f = 11 ∨ f = 31 ∨ f = 35 ∨ f = 36 ∨ f = 46 ∨ f = 47 ∨ f = 49 then -2147483648 else 0
def bh (f : Nat) : Int := match f with
  | 0 => 9999 | 1 => 6 | 2 => 40 | 3 => 3 | 4 => 999 | 5 => 5 | 6 => 416 | 7 => 512 | 8 => 999 | 9 => 999 | 12 => 1 | 13 => 23 | 14 => 30
  | 15 => 4 | 16 => 5 | 17 => 39 | 18 => 39 | 19 => 300 | 20 => 1 | 21 => 39 | 22 => 42 | 23 => 24 | 24 => 4 | 25 => 5 | 26 => 39 | 27 => 39 | 28 => 300 | 29 => 3
  | 30 => 999 | 32 => 416 | 33 => 4 | 34 => 3 | 37 => 1 | 38 => 1 | 39 => 1 | 40 => 512 | 41 => 239 | 42 => 23 | 43 => 416 | 44 => 100 | 45 => 1
  | _ => 2147483647
/-- the bounds of all places -/
def IB (σ : SG) : Prop := ∀ f i, bl f ≤ (σ f i).toInt ∧ (σ f i).toInt ≤ bh f
theorem IB_up {σ : SG} (h : IB σ) (f i : Nat) {v : Int32} (h1 : bl f ≤ v.toInt) (h2 : v.toInt ≤ bh f) : IB (up2 σ f i v) := by
  intro g j
  unfold up2
  by_cases e : g = f ∧ j = i
  · rw [if_pos e, e.1]; exact ⟨h1, h2⟩
  · rw [if_neg e]; exact h g j
/-- a place of an array that is not below 0 -/
theorem IB_nI {σ : SG} (h : IB σ) (f i : Nat) (h0 : bl f = 0) : ∃ k : Nat, σ f i = nI k ∧ (k : Int) ≤ bh f ∧ k < 2147483648 := by
  have := h f i
  have a2 := Ihi (σ f i)
  refine ⟨(σ f i).toInt.toNat, ?_, by omega, by omega⟩
  rw [ieq, nI_toInt (by omega)]; omega
theorem IB_vin {σ : SG} (h : IB σ) (f i n : Nat) (h0 : bl f = 0) (hn : bh f < n) : vp_in (σ f i) n := by
  have := h f i
  have a2 := Ihi (σ f i)
  unfold vp_in Int32.toNatClampNeg
  rw [ilt, I0]; omega
/-! how many -/
noncomputable def cN (P : Nat → Prop) : Nat → Nat
  | 0 => 0
  | n + 1 => cN P n + iT (P n) 1 0
theorem cN_le (P : Nat → Prop) (n : Nat) : cN P n ≤ n := by
  induction n with
  | zero => exact Nat.le_refl _
  | succ n ih => unfold cN iT; split <;> omega
theorem cN_cong {P Q : Nat → Prop} : ∀ n, (∀ i, i < n → (P i ↔ Q i)) → cN P n = cN Q n
  | 0, _ => rfl
  | n + 1, h => by
    unfold cN
    rw [cN_cong n (fun i hi => h i (by omega)), propext (h n (by omega))]
theorem cN_0 {P : Nat → Prop} : ∀ n, cN P n = 0 ↔ ∀ i, i < n → ¬ P i
  | 0 => by simp [cN]
  | n + 1 => by
    unfold cN
    have ih := cN_0 (P := P) n
    by_cases e : P n
    · rw [iT_T e]
      exact ⟨fun h => by omega, fun h => absurd e (h n (by omega))⟩
    · rw [iT_F e]
      refine ⟨fun h i hi => ?_, fun h => by have := ih.mpr (fun i hi => h i (by omega)); omega⟩
      by_cases hin : i = n
      · rw [hin]; exact e
      · exact ih.mp (by omega) i (by omega)
theorem cN_s {P : Nat → Prop} (n : Nat) : nI (cN P (n + 1)) = iT (P n) (nI (cN P n + 1)) (nI (cN P n)) := by
  conv => lhs; unfold cN
  by_cases e : P n
  · rw [iT_T e, iT_T e]
  · rw [iT_F e, iT_F e, Nat.add_zero]
theorem q_add0 (x : Int32) : x + 0 = x := Int32.add_zero x
/-- whether one of those below n -/
def aN (P : Nat → Prop) (n : Nat) : Prop := ∃ i, i < n ∧ P i
theorem aN_0 {P : Nat → Prop} : ¬ aN P 0 := fun ⟨i, h, _⟩ => by omega
theorem aN_or {P : Nat → Prop} (n : Nat) : aN P (n + 1) ↔ aN P n ∨ P n := by
  constructor
  · rintro ⟨i, hi, h⟩
    by_cases e : i = n
    · subst e; exact Or.inr h
    · exact Or.inl ⟨i, by omega, h⟩
  · rintro (⟨i, hi, h⟩ | h)
    · exact ⟨i, by omega, h⟩
    · exact ⟨n, by omega, h⟩
theorem aN_s {P : Nat → Prop} (n : Nat) : bI (aN P (n + 1)) = iT (aN P n) 1 (bI (P n)) := by
  by_cases e : aN P n
  · rw [iT_T e, bI_T ((aN_or n).mpr (Or.inl e))]
  · rw [iT_F e]; exact bI_c ⟨fun h => ((aN_or n).mp h).resolve_left e, fun h => (aN_or n).mpr (Or.inr h)⟩
theorem bI_a0 {P : Nat → Prop} : (0 : Int32) = bI (aN P 0) := (bI_F aN_0).symm
/-- a loop with an end has one meaning -/
theorem loop_ex {N : Nat} {α : Type} (F : Nat → α) (W : Nat → α → Int32 → Prop) (B : Prop) {i0 : Nat} (hi0 : i0 ≤ N) {a0 : α} {v0 : Int32} (ha : a0 = F i0) (hv : v0 = nI i0)
    (hz : ∀ a v, W 0 a v = False)
    (h0 : ∀ n, W (n + 1) (F N) (nI N) = B)
    (h1 : ∀ n i, i0 ≤ i → i < N → W (n + 1) (F i) (nI i) = W n (F (i + 1)) (nI (i + 1))) :
    (∃ n, W n a0 v0) = B := by
  subst ha; subst hv
  have fw : ∀ n i, i0 ≤ i → i ≤ N → W n (F i) (nI i) → B := by
    intro n
    induction n with
    | zero => intro i _ _ h; rw [hz] at h; exact h.elim
    | succ n ih =>
      intro i h2 hi h
      by_cases e : i = N
      · rw [e, h0] at h; exact h
      · rw [h1 n i h2 (by omega)] at h; exact ih (i + 1) (by omega) (by omega) h
  have bw : ∀ d i, i0 ≤ i → i + d = N → W (d + 1) (F i) (nI i) = B := by
    intro d
    induction d with
    | zero => intro i _ hi; rw [show i = N by omega]; exact h0 0
    | succ d ih => intro i h2 hi; rw [h1 (d + 1) i h2 (by omega)]; exact ih (i + 1) (by omega) (by omega)
  refine propext ⟨fun ⟨n, h⟩ => fw n i0 (Nat.le_refl _) hi0 h, fun h => ⟨N - i0 + 1, ?_⟩⟩
  rw [bw (N - i0) i0 (Nat.le_refl _) (by omega)]; exact h
