/-! the reference's constructor -/
def RMp (N : Nat) (A : Nat → Nat) (m : Nat) (S : PT) : Prop :=
  gK S m = 10 ∧ (∀ f g, f < N → g < N → aM f = true → aM g = true → A f = A g → f = g) ∧ (∀ f, f < N → aM f = true → gP S (1000 + f) m = some (A f) ∧ gK S (A f) = kM f ∧ gN S (A f) = lM f) ∧ (∀ f, f < N → aM f = true → gA S (A f) = fun _ => 0) ∧ (∀ f, cM f = true → gI S (1000 + f) m = 0) ∧ (48 < N → gB S (A 48) = fun _ => 0)
def RMe (N m : Nat) (S : PT) : Prop := ∃ A, RMp N A m S
section I
variable {N m : Nat} {S : PT}
theorem kM_ne (f : Nat) : kM f ≠ 0 := by
  unfold kM
  split
  · decide
  · split
    · decide
    · decide
theorem RMe_0 (m : Nat) : RMe 2 m (nO P0 m 10) := by
  have no : ∀ f, f < 2 → aM f = true → False := by
    intro f h a
    have h2 : f = 0 ∨ f = 1 := by omega
    rcases h2 with rfl | rfl
    · revert a; decide
    · revert a; decide
  refine ⟨fun _ => m, ?_, fun f g h1 _ h2 _ _ => (no f h1 h2).elim, fun f h1 h2 => (no f h1 h2).elim, fun f h1 h2 => (no f h1 h2).elim, fun f _ => ?_, fun h => absurd h (by decide)⟩
  · show va_up (gK P0) m 10 m = 10
    simp [va_up]
  · show (if m = m then 0 else gI P0 (1000 + f) m) = 0
    rw [if_pos rfl]
theorem RMe_n (h : aM N = false) (R : RMe N m S) : RMe (N + 1) m S := by
  obtain ⟨A, h1, h2, h3, h4, h5, h6⟩ := R
  have lt : ∀ f, f < N + 1 → aM f = true → f < N := by
    intro f hf ha
    have h2 : f < N ∨ f = N := by omega
    rcases h2 with h2 | rfl
    · exact h2
    · rw [h] at ha; cases ha
  have n48 : N ≠ 48 := by rintro rfl; revert h; decide
  exact ⟨A, h1, fun f g a b c d e => h2 f g (lt f a c) (lt g b d) c d e, fun f a b => h3 f (lt f a b) b, fun f a b => h4 f (lt f a b) b, h5, fun h => h6 (by omega)⟩
theorem RMe_s (N : Nat) (k l F : Nat) (h : aM N = true) (hk : kM N = k) (hl : lM N = l) (hF : 1000 + N = F) (R : RMe N m S) {q : Nat} {S1 : PT} (hq : gK S q = 0) (e1 : S1 = nA S q k l) : gK S1 m = 10 ∧ ∀ S2, S2 = sP S1 F m (some q) → RMe (N + 1) m S2 := by
  obtain ⟨A, h1, h2, h3, h4, h5, h6⟩ := R
  subst hk; subst hl; subst hF; subst e1
  have hm : m ≠ q := by rintro rfl; rw [h1] at hq; cases hq
  have hA : ∀ f, f < N → aM f = true → A f ≠ q := by
    intro f hf ha e
    have h7 := (h3 f hf ha).2.1
    rw [e, hq] at h7
    exact kM_ne f h7.symm
  have k1 : gK (nA S q (kM N) (lM N)) m = 10 := by
    show va_up (gK S) q (kM N) m = 10
    simp [va_up, hm, h1]
  refine ⟨k1, ?_⟩
  intro S2 e2
  subst e2
  have B1 : ∀ f, f ≠ N → (if f = N then q else A f) = A f := fun f hf => if_neg hf
  have B2 : (if N = N then q else A N) = q := if_pos rfl
  have two : ∀ f, f < N + 1 → f < N ∧ f ≠ N ∨ f = N := fun f hf => by omega
  refine ⟨fun f => if f = N then q else A f, k1, ?_, ?_, ?_, ?_, ?_⟩
  · intro f g hf hg af ag e
    rcases two f hf with ⟨f1, f2⟩ | rfl
    · rcases two g hg with ⟨g1, g2⟩ | rfl
      · replace e : (if f = N then q else A f) = (if g = N then q else A g) := e
        rw [B1 f f2, B1 g g2] at e
        exact h2 f g f1 g1 af ag e
      · replace e : (if f = g then q else A f) = (if g = g then q else A g) := e
        rw [B1 f f2, B2] at e
        exact absurd e (hA f f1 af)
    · rcases two g hg with ⟨g1, g2⟩ | rfl
      · replace e : (if f = f then q else A f) = (if g = f then q else A g) := e
        rw [B1 g g2, B2] at e
        exact absurd e.symm (hA g g1 ag)
      · rfl
  · intro f hf af
    rcases two f hf with ⟨f1, f2⟩ | rfl
    · have a := h3 f f1 af
      show up2 (gP S) (1000 + N) m (some q) (1000 + f) m = some (if f = N then q else A f) ∧ va_up (gK S) q (kM N) (if f = N then q else A f) = kM f ∧ va_up (gN S) q (lM N) (if f = N then q else A f) = lM f
      rw [B1 f f2, up2_f _ _ _ _ (by omega)]
      refine ⟨a.1, ?_, ?_⟩
      · simp [va_up, hA f f1 af, a.2.1]
      · simp [va_up, hA f f1 af, a.2.2]
    · show up2 (gP S) (1000 + f) m (some q) (1000 + f) m = some (if f = f then q else A f) ∧ va_up (gK S) q (kM f) (if f = f then q else A f) = kM f ∧ va_up (gN S) q (lM f) (if f = f then q else A f) = lM f
      rw [B2, up2_s]
      refine ⟨rfl, ?_, ?_⟩
      · simp [va_up]
      · simp [va_up]
  · intro f hf af
    rcases two f hf with ⟨f1, f2⟩ | rfl
    · show va_up (gA S) q (fun _ => 0) (if f = N then q else A f) = fun _ => 0
      rw [B1 f f2]
      simp only [va_up, hA f f1 af, if_false]
      exact h4 f f1 af
    · show va_up (gA S) q (fun _ => 0) (if f = f then q else A f) = fun _ => 0
      rw [B2]
      simp [va_up]
  · intro f hf
    exact h5 f hf
  · intro h8
    rcases two 48 h8 with ⟨f1, f2⟩ | e
    · show va_up (gB S) q (fun _ => 0) (if 48 = N then q else A 48) = fun _ => 0
      rw [B1 48 f2]
      simp only [va_up, hA 48 f1 (by decide), if_false]
      exact h6 f1
    · show va_up (gB S) q (fun _ => 0) (if 48 = N then q else A 48) = fun _ => 0
      rw [if_pos e]
      simp [va_up]
/-- the reference at the start -/
noncomputable def sg (a b : Nat) : SG := fun f j => iT (f = 13 ∧ j < a) (-1) (iT ((f = 6 ∨ f = 8) ∧ j < b) (-1) 0)
theorem sg_0 : (fun _ _ => 0 : SG) = sg 0 0 := by
  funext f j
  unfold sg
  rw [iT_F (by omega), iT_F (by omega)]
theorem sg_a (a : Nat) : up2 (sg a 0) 13 a (-1) = sg (a + 1) 0 := by
  funext f j
  unfold up2 sg
  by_cases h : f = 13 ∧ j = a
  · rw [if_pos h, iT_T (by omega)]
  · rw [if_neg h]
    by_cases h2 : f = 13 ∧ j < a
    · rw [iT_T h2, iT_T (by omega)]
    · rw [iT_F h2, iT_F (show ¬(f = 13 ∧ j < a + 1) by omega)]
theorem sg_b (b : Nat) : up2 (up2 (sg 240 b) 8 b (-1)) 6 b (-1) = sg 240 (b + 1) := by
  funext f j
  unfold up2 sg
  by_cases h : f = 6 ∧ j = b
  · rw [if_pos h, iT_F (by omega), iT_T (by omega)]
  · rw [if_neg h]
    by_cases h1 : f = 8 ∧ j = b
    · rw [if_pos h1, iT_F (by omega), iT_T (by omega)]
    · rw [if_neg h1]
      by_cases h2 : f = 13 ∧ j < 240
      · rw [iT_T h2, iT_T h2]
      · rw [iT_F h2, iT_F h2]
        by_cases h3 : (f = 6 ∨ f = 8) ∧ j < b
        · rw [iT_T h3, iT_T (by omega)]
        · rw [iT_F h3, iT_F (by omega)]
end I
