/-! the reference's constructor -/
def RMp (N : Nat) (A : Nat → Nat) (m : Nat) (S : PT) : Prop :=
  gK S m = 10 ∧ (∀ f g, f < N → g < N → aM f = true → aM g = true → A f = A g → f = g) ∧ (∀ f, f < N → aM f = true → gP S (1000 + f) m = some (A f) ∧ gK S (A f) = kM f ∧ gN S (A f) = lM f) ∧ (∀ f, f < N → aM f = true → gA S (A f) = fun _ => 0) ∧ (∀ f, cM f = true → gI S (1000 + f) m = 0) ∧ (48 < N → gB S (A 48) = fun _ => 0)
def RMe (N m : Nat) (S : PT) : Prop := ∃ A, RMp N A m S
section I
variable {N m : Nat} {S : PT}
theorem kM_ne (f : Nat) : kM f ≠ 0 := by
  unfold kM
  split
  · decide
  · split
    · decide
    · decide
theorem RMe_0 (m : Nat) : RMe 2 m (nO P0 m 10) := by
  have no : ∀ f, f < 2 → aM f = true → False := by
    intro f h a
    have h2 : f = 0 ∨ f = 1 := by omega
    rcases h2 with rfl | rfl
    · revert a; decide
    · revert a; decide
  refine ⟨fun _ => m, ?_, fun f g h1 _ h2 _ _ => (no f h1 h2).elim, fun f h1 h2 => (no f h1 h2).elim, fun f h1 h2 => (no f h1 h2).elim, fun f _ => ?_, fun h => absurd h (by decide)⟩
  · show va_up (gK P0) m 10 m = 10
    simp [va_up]
  · show (if m = m then 0 else gI P0 (1000 + f) m) = 0
    rw [if_pos rfl]
theorem RMe_n (h : aM N = false) (R : RMe N m S) : RMe (N + 1) m S := by
  obtain ⟨A, h1, h2, h3, h4, h5, h6⟩ := R
  have lt : ∀ f, f < N + 1 → aM f = true → f < N := by
    intro f hf ha
    have h2 : f < N ∨ f = N := by omega
    rcases h2 with h2 | rfl
    · exact h2
    · rw [h] at ha; cases ha
  have n48 : N ≠ 48 := by rintro rfl; revert h; decide
  exact ⟨A, h1, fun f g a b c d e => h2 f g (lt f a c) (lt g b d) c d e, fun f a b => h3 f (lt f a b) b, fun f a b => h4 f (lt f a b) b, h5, fun h => h6 (by omega)⟩
theorem RMe_s (N : Nat) (k l F : Nat) (h : aM N = true) (hk : kM N = k) (hl : lM N = l) (hF : 1000 + N = F) (R : RMe N m S) {q : Nat} {S1 : PT} (hq : gK S q = 0) (e1 : S1 = nA S q k l) : gK S1 m = 10 ∧ ∀ S2, S2 = sP S1 F m (some q) → RMe (N + 1) m S2 := by
  obtain ⟨A, h1, h2, h3, h4, h5, h6⟩ := R
  subst hk; subst hl; subst hF; subst e1
  have hm : m ≠ q := by rintro rfl; rw [h1] at hq; cases hq
  have hA : ∀ f, f < N → aM f = true → A f ≠ q := by
    intro f hf ha e
    have h7 := (h3 f hf ha).2.1
    rw [e, hq] at h7
    exact kM_ne f h7.symm
  have k1 : gK (nA S q (kM N) (lM N)) m = 10 := by
    show va_up (gK S) q (kM N) m = 10
    simp [va_up, hm, h1]
  refine ⟨k1, ?_⟩
  intro S2 e2
  subst e2
  have B1 : ∀ f, f ≠ N → (if f = N then q else A f) = A f := fun f hf => if_neg hf
  have B2 : (if N = N then q else A N) = q := if_pos rfl
  have two : ∀ f, f < N + 1 → f < N ∧ f ≠ N ∨ f = N := fun f hf => by omega
  refine ⟨fun f => if f = N then q else A f, k1, ?_, ?_, ?_, ?_, ?_⟩
  · intro f g hf hg af ag e
    rcases two f hf with ⟨f1, f2⟩ | rfl
    · rcases two g hg with ⟨g1, g2⟩ | rfl
      · replace e : (if f = N then q else A f) = (if g = N then q else A g) := e
        rw [B1 f f2, B1 g g2] at e
        exact h2 f g f1 g1 af ag e
      · replace e : (if f = g then q else A f) = (if g = g then q else A g) := e
        rw [B1 f f2, B2] at e
        exact absurd e (hA f f1 af)
    · rcases two g hg with ⟨g1, g2⟩ | rfl
      · replace e : (if f = f then q else A f) = (if g = f then q else A g) := e
        rw [B1 g g2, B2] at e
        exact absurd e.symm (hA g g1 ag)
      · rfl
  · intro f hf af
    rcases two f hf with ⟨f1, f2⟩ | rfl
    · have a := h3 f f1 af
      show up2 (gP S) (1000 + N) m (some q) (1000 + f) m = some (if f = N then q else A f) ∧ va_up (gK S) q (kM N) (if f = N then q else A f) = kM f ∧ va_up (gN S) q (lM N) (if f = N then q else A f) = lM f
      rw [B1 f f2, up2_f _ _ _ _ (by omega)]
      refine ⟨a.1, ?_, ?_⟩
      · simp [va_up, hA f f1 af, a.2.1]
      · simp [va_up, hA f f1 af, a.2.2]
    · show up2 (gP S) (1000 + f) m (some q) (1000 + f) m = some (if f = f then q else A f) ∧ va_up (gK S) q (kM f) (if f = f then q else A f) = kM f ∧ va_up (gN S) q (lM f) (if f = f then q else A f) = lM f
      rw [B2, up2_s]
      refine ⟨rfl, ?_, ?_⟩
      · simp [va_up]
      · simp [va_up]
  · intro f hf af
    rcases two f hf with ⟨f1, f2⟩ | rfl
    · show va_up (gA S) q (fun _ => 0) (if f = N then q else A f) = fun _ => 0
      rw [B1 f f2]
      simp only [va_up, hA f f1 af, if_false]
      exact h4 f f1 af
    · show va_up (gA S) q (fun _ => 0) (if f = f then q else A f) = fun _ => 0
      rw [B2]
      simp [va_up]
  · intro f hf
    exact h5 f hf
  · intro h8
    rcases two 48 h8 with ⟨f1, f2⟩ | e
    · show va_up (gB S) q (fun _ => 0) (if 48 = N then q else A 48) = fun _ => 0
      rw [B1 48 f2]
      simp only [va_up, hA 48 f1 (by decide), if_false]
      exact h6 f1
    · show va_up (gB S) q (fun _ => 0) (if 48 = N then q else A 48) = fun _ => 0
      rw [if_pos e]
      simp [va_up]
theorem RMe_RM (R : RMe 49 m S) : ∃ A, RM A m S (fun _ _ => 0) (fun _ => 0) := by
  obtain ⟨A, h1, h2, h3, h4, h5, h6⟩ := R
  have lt : ∀ f, aM f = true → f < 49 := by
    intro f h
    unfold aM at h
    simp only [Bool.and_eq_true, decide_eq_true_eq] at h
    omega
  exact ⟨A, h1, fun f g a b e => h2 f g (lt f a) (lt g b) a b e, fun f a => h3 f (lt f a) a, fun f a _ => h4 f (lt f a) a, fun f a => h5 f a, h6 (by decide)⟩
/-- the reference at the start -/
noncomputable def sg (a b : Nat) : SG := fun f j => iT (f = 13 ∧ j < a) (-1) (iT ((f = 6 ∨ f = 8) ∧ j < b) (-1) 0)
theorem sg_0 : (fun _ _ => 0 : SG) = sg 0 0 := by
  funext f j
  unfold sg
  rw [iT_F (by omega), iT_F (by omega)]
theorem sg_a (a : Nat) : up2 (sg a 0) 13 a (-1) = sg (a + 1) 0 := by
  funext f j
  unfold up2 sg
  by_cases h : f = 13 ∧ j = a
  · rw [if_pos h, iT_T (by omega)]
  · rw [if_neg h]
    by_cases h2 : f = 13 ∧ j < a
    · rw [iT_T h2, iT_T (by omega)]
    · rw [iT_F h2, iT_F (show ¬(f = 13 ∧ j < a + 1) by omega)]
theorem sg_b (b : Nat) : up2 (up2 (sg 240 b) 8 b (-1)) 6 b (-1) = sg 240 (b + 1) := by
  funext f j
  unfold up2 sg
  by_cases h : f = 6 ∧ j = b
  · rw [if_pos h, iT_F (by omega), iT_T (by omega)]
  · rw [if_neg h]
    by_cases h1 : f = 8 ∧ j = b
    · rw [if_pos h1, iT_F (by omega), iT_T (by omega)]
    · rw [if_neg h1]
      by_cases h2 : f = 13 ∧ j < 240
      · rw [iT_T h2, iT_T h2]
      · rw [iT_F h2, iT_F h2]
        by_cases h3 : (f = 6 ∨ f = 8) ∧ j < b
        · rw [iT_T h3, iT_T (by omega)]
        · rw [iT_F h3, iT_F (by omega)]
theorem X9_b {A : Nat → Nat} {mc ms c0 n0 : Nat} {post : PT → Prop} (hc : c0 ≤ mc) (hs : n0 ≤ ms) (h : ∀ S', RM A m S' (sg 240 6) (fun _ => 0) → post S') (S : PT) (R : RM A m S (sg 240 0) (fun _ => 0)) : ∃ n, w_X9_init_l386 m mc ms post n c0 n0 S 0 := by
  refine loop_st (N := 6) (fun i S => RM A m S (sg 240 i) (fun _ => 0)) (fun n S v => w_X9_init_l386 m mc ms post n c0 n0 S v) (fun n S R => ?_) (fun n i S hi R ih => ?_) S R
  · unfold w_X9_init_l386
    exact ⟨hc, hs, fun _ => h S R, fun n => absurd (by decide) n⟩
  · unfold w_X9_init_l386
    have c : ¬ 6 ≤ nI i := by
      rw [show (6 : Int32) = nI 6 from by decide, qn_le (by omega) (by omega)]; omega
    refine ⟨hc, hs, fun n => absurd n c, fun _ => ⟨RM_K R, A 8, RM_P8 R, RM_k8 R, by rw [RM_n8 R]; exact vin_nI (by omega) (by decide), ?_⟩⟩
    rw [qn_nat (show i < 2147483648 by omega)]
    refine RM_uA R (f := 8) rfl (by decide) (fun S6 R6 => ?_)
    refine ⟨A 6, RM_P6 R6, RM_k6 R6, by rw [RM_n6 R6]; exact vin_nI (by omega) (by decide), ?_⟩
    refine RM_uA R6 (f := 6) rfl (by decide) (fun S7 R7 => ?_)
    rw [sg_b] at R7
    rw [qn_s]
    exact ih S7 R7
theorem X9_a {A : Nat → Nat} {mc ms c0 n0 : Nat} {post : PT → Prop} (hc : c0 ≤ mc) (hs : n0 ≤ ms) (h : ∀ S', RM A m S' (sg 240 6) (fun _ => 0) → post S') (S : PT) (R : RM A m S (sg 0 0) (fun _ => 0)) : ∃ n, w_X9_init_l364 m mc ms post n c0 n0 S 0 := by
  refine loop_st (N := 240) (fun i S => RM A m S (sg i 0) (fun _ => 0)) (fun n S v => w_X9_init_l364 m mc ms post n c0 n0 S v) (fun n S R => ?_) (fun n i S hi R ih => ?_) S R
  · unfold w_X9_init_l364
    exact ⟨hc, hs, fun _ => X9_b hc hs h S R, fun n => absurd (by decide) n⟩
  · unfold w_X9_init_l364
    have c : ¬ 240 ≤ nI i := by
      rw [show (240 : Int32) = nI 240 from by decide, qn_le (by omega) (by omega)]; omega
    refine ⟨hc, hs, fun n => absurd n c, fun _ => ⟨RM_K R, A 13, RM_P13 R, RM_k13 R, by rw [RM_n13 R]; exact vin_nI (by omega) (by decide), ?_⟩⟩
    rw [qn_nat (show i < 2147483648 by omega)]
    refine RM_uA R (f := 13) rfl (by decide) (fun S6 R6 => ?_)
    rw [sg_a] at R6
    rw [qn_s]
    exact ih S6 R6
theorem X9_mk {post : PT → Prop} (h : ∀ A S', RM A m S' (sg 240 6) (fun _ => 0) → post S') : w_X9_init m (nO P0 m 10) 60 8000 post := by
  have R := RMe_0 m
  unfold w_X9_init
  refine ⟨by decide, by decide, ?_⟩
  intro q S1 hq e1
  obtain ⟨k1, w1⟩ := RMe_s 2 12 6 1002 rfl rfl rfl rfl R hq e1
  refine ⟨k1, ?_⟩
  intro S2 e2
  replace R := w1 S2 e2
  clear k1 w1 e2 e1 hq
  refine ⟨by decide, by decide, ?_⟩
  intro q S1 hq e1
  obtain ⟨k1, w1⟩ := RMe_s 3 12 6 1003 rfl rfl rfl rfl R hq e1
  intro S2 e2
  replace R := w1 S2 e2
  clear k1 w1 e2 e1 hq
  refine ⟨by decide, by decide, ?_⟩
  intro q S1 hq e1
  obtain ⟨k1, w1⟩ := RMe_s 4 12 6 1004 rfl rfl rfl rfl R hq e1
  intro S2 e2
  replace R := w1 S2 e2
  clear k1 w1 e2 e1 hq
  refine ⟨by decide, by decide, ?_⟩
  intro q S1 hq e1
  obtain ⟨k1, w1⟩ := RMe_s 5 12 6 1005 rfl rfl rfl rfl R hq e1
  intro S2 e2
  replace R := w1 S2 e2
  clear k1 w1 e2 e1 hq
  refine ⟨by decide, by decide, ?_⟩
  intro q S1 hq e1
  obtain ⟨k1, w1⟩ := RMe_s 6 12 6 1006 rfl rfl rfl rfl R hq e1
  intro S2 e2
  replace R := w1 S2 e2
  clear k1 w1 e2 e1 hq
  refine ⟨by decide, by decide, ?_⟩
  intro q S1 hq e1
  obtain ⟨k1, w1⟩ := RMe_s 7 12 6 1007 rfl rfl rfl rfl R hq e1
  intro S2 e2
  replace R := w1 S2 e2
  clear k1 w1 e2 e1 hq
  refine ⟨by decide, by decide, ?_⟩
  intro q S1 hq e1
  obtain ⟨k1, w1⟩ := RMe_s 8 12 6 1008 rfl rfl rfl rfl R hq e1
  intro S2 e2
  replace R := w1 S2 e2
  clear k1 w1 e2 e1 hq
  refine ⟨by decide, by decide, ?_⟩
  intro q S1 hq e1
  obtain ⟨k1, w1⟩ := RMe_s 9 12 6 1009 rfl rfl rfl rfl R hq e1
  intro S2 e2
  replace R := w1 S2 e2
  clear k1 w1 e2 e1 hq
  refine ⟨by decide, by decide, ?_⟩
  intro q S1 hq e1
  obtain ⟨k1, w1⟩ := RMe_s 10 12 6 1010 rfl rfl rfl rfl R hq e1
  intro S2 e2
  replace R := w1 S2 e2
  clear k1 w1 e2 e1 hq
  refine ⟨by decide, by decide, ?_⟩
  intro q S1 hq e1
  obtain ⟨k1, w1⟩ := RMe_s 11 12 6 1011 rfl rfl rfl rfl R hq e1
  intro S2 e2
  replace R := w1 S2 e2
  clear k1 w1 e2 e1 hq
  refine ⟨by decide, by decide, ?_⟩
  intro q S1 hq e1
  obtain ⟨k1, w1⟩ := RMe_s 12 14 240 1012 rfl rfl rfl rfl R hq e1
  intro S2 e2
  replace R := w1 S2 e2
  clear k1 w1 e2 e1 hq
  refine ⟨by decide, by decide, ?_⟩
  intro q S1 hq e1
  obtain ⟨k1, w1⟩ := RMe_s 13 12 240 1013 rfl rfl rfl rfl R hq e1
  intro S2 e2
  replace R := w1 S2 e2
  clear k1 w1 e2 e1 hq
  refine ⟨by decide, by decide, ?_⟩
  replace R := RMe_n (N := 14) rfl R
  intro q S1 hq e1
  obtain ⟨k1, w1⟩ := RMe_s 15 12 30 1015 rfl rfl rfl rfl R hq e1
  intro S2 e2
  replace R := w1 S2 e2
  clear k1 w1 e2 e1 hq
  refine ⟨by decide, by decide, ?_⟩
  intro q S1 hq e1
  obtain ⟨k1, w1⟩ := RMe_s 16 12 30 1016 rfl rfl rfl rfl R hq e1
  intro S2 e2
  replace R := w1 S2 e2
  clear k1 w1 e2 e1 hq
  refine ⟨by decide, by decide, ?_⟩
  intro q S1 hq e1
  obtain ⟨k1, w1⟩ := RMe_s 17 12 30 1017 rfl rfl rfl rfl R hq e1
  intro S2 e2
  replace R := w1 S2 e2
  clear k1 w1 e2 e1 hq
  refine ⟨by decide, by decide, ?_⟩
  intro q S1 hq e1
  obtain ⟨k1, w1⟩ := RMe_s 18 12 30 1018 rfl rfl rfl rfl R hq e1
  intro S2 e2
  replace R := w1 S2 e2
  clear k1 w1 e2 e1 hq
  refine ⟨by decide, by decide, ?_⟩
  intro q S1 hq e1
  obtain ⟨k1, w1⟩ := RMe_s 19 12 30 1019 rfl rfl rfl rfl R hq e1
  intro S2 e2
  replace R := w1 S2 e2
  clear k1 w1 e2 e1 hq
  refine ⟨by decide, by decide, ?_⟩
  intro q S1 hq e1
  obtain ⟨k1, w1⟩ := RMe_s 20 14 30 1020 rfl rfl rfl rfl R hq e1
  intro S2 e2
  replace R := w1 S2 e2
  clear k1 w1 e2 e1 hq
  refine ⟨by decide, by decide, ?_⟩
  intro q S1 hq e1
  obtain ⟨k1, w1⟩ := RMe_s 21 12 30 1021 rfl rfl rfl rfl R hq e1
  intro S2 e2
  replace R := w1 S2 e2
  clear k1 w1 e2 e1 hq
  refine ⟨by decide, by decide, ?_⟩
  intro q S1 hq e1
  obtain ⟨k1, w1⟩ := RMe_s 22 12 30 1022 rfl rfl rfl rfl R hq e1
  intro S2 e2
  replace R := w1 S2 e2
  clear k1 w1 e2 e1 hq
  refine ⟨by decide, by decide, ?_⟩
  replace R := RMe_n (N := 23) rfl R
  intro q S1 hq e1
  obtain ⟨k1, w1⟩ := RMe_s 24 12 24 1024 rfl rfl rfl rfl R hq e1
  intro S2 e2
  replace R := w1 S2 e2
  clear k1 w1 e2 e1 hq
  refine ⟨by decide, by decide, ?_⟩
  intro q S1 hq e1
  obtain ⟨k1, w1⟩ := RMe_s 25 12 24 1025 rfl rfl rfl rfl R hq e1
  intro S2 e2
  replace R := w1 S2 e2
  clear k1 w1 e2 e1 hq
  refine ⟨by decide, by decide, ?_⟩
  intro q S1 hq e1
  obtain ⟨k1, w1⟩ := RMe_s 26 12 24 1026 rfl rfl rfl rfl R hq e1
  intro S2 e2
  replace R := w1 S2 e2
  clear k1 w1 e2 e1 hq
  refine ⟨by decide, by decide, ?_⟩
  intro q S1 hq e1
  obtain ⟨k1, w1⟩ := RMe_s 27 12 24 1027 rfl rfl rfl rfl R hq e1
  intro S2 e2
  replace R := w1 S2 e2
  clear k1 w1 e2 e1 hq
  refine ⟨by decide, by decide, ?_⟩
  intro q S1 hq e1
  obtain ⟨k1, w1⟩ := RMe_s 28 12 24 1028 rfl rfl rfl rfl R hq e1
  intro S2 e2
  replace R := w1 S2 e2
  clear k1 w1 e2 e1 hq
  refine ⟨by decide, by decide, ?_⟩
  intro q S1 hq e1
  obtain ⟨k1, w1⟩ := RMe_s 29 12 24 1029 rfl rfl rfl rfl R hq e1
  intro S2 e2
  replace R := w1 S2 e2
  clear k1 w1 e2 e1 hq
  refine ⟨by decide, by decide, ?_⟩
  intro q S1 hq e1
  obtain ⟨k1, w1⟩ := RMe_s 30 12 24 1030 rfl rfl rfl rfl R hq e1
  intro S2 e2
  replace R := w1 S2 e2
  clear k1 w1 e2 e1 hq
  refine ⟨by decide, by decide, ?_⟩
  intro q S1 hq e1
  obtain ⟨k1, w1⟩ := RMe_s 31 12 24 1031 rfl rfl rfl rfl R hq e1
  intro S2 e2
  replace R := w1 S2 e2
  clear k1 w1 e2 e1 hq
  refine ⟨by decide, by decide, ?_⟩
  intro q S1 hq e1
  obtain ⟨k1, w1⟩ := RMe_s 32 12 24 1032 rfl rfl rfl rfl R hq e1
  intro S2 e2
  replace R := w1 S2 e2
  clear k1 w1 e2 e1 hq
  refine ⟨by decide, by decide, ?_⟩
  intro q S1 hq e1
  obtain ⟨k1, w1⟩ := RMe_s 33 12 24 1033 rfl rfl rfl rfl R hq e1
  intro S2 e2
  replace R := w1 S2 e2
  clear k1 w1 e2 e1 hq
  refine ⟨by decide, by decide, ?_⟩
  intro q S1 hq e1
  obtain ⟨k1, w1⟩ := RMe_s 34 12 24 1034 rfl rfl rfl rfl R hq e1
  intro S2 e2
  replace R := w1 S2 e2
  clear k1 w1 e2 e1 hq
  refine ⟨by decide, by decide, ?_⟩
  intro q S1 hq e1
  obtain ⟨k1, w1⟩ := RMe_s 35 12 24 1035 rfl rfl rfl rfl R hq e1
  intro S2 e2
  replace R := w1 S2 e2
  clear k1 w1 e2 e1 hq
  refine ⟨by decide, by decide, ?_⟩
  intro q S1 hq e1
  obtain ⟨k1, w1⟩ := RMe_s 36 12 24 1036 rfl rfl rfl rfl R hq e1
  intro S2 e2
  replace R := w1 S2 e2
  clear k1 w1 e2 e1 hq
  refine ⟨by decide, by decide, ?_⟩
  intro q S1 hq e1
  obtain ⟨k1, w1⟩ := RMe_s 37 14 24 1037 rfl rfl rfl rfl R hq e1
  intro S2 e2
  replace R := w1 S2 e2
  clear k1 w1 e2 e1 hq
  refine ⟨by decide, by decide, ?_⟩
  intro q S1 hq e1
  obtain ⟨k1, w1⟩ := RMe_s 38 14 24 1038 rfl rfl rfl rfl R hq e1
  intro S2 e2
  replace R := w1 S2 e2
  clear k1 w1 e2 e1 hq
  refine ⟨by decide, by decide, ?_⟩
  intro q S1 hq e1
  obtain ⟨k1, w1⟩ := RMe_s 39 14 576 1039 rfl rfl rfl rfl R hq e1
  intro S2 e2
  replace R := w1 S2 e2
  clear k1 w1 e2 e1 hq
  refine ⟨by decide, by decide, ?_⟩
  replace R := RMe_n (N := 40) rfl R
  intro q S1 hq e1
  obtain ⟨k1, w1⟩ := RMe_s 41 12 1024 1041 rfl rfl rfl rfl R hq e1
  intro S2 e2
  replace R := w1 S2 e2
  clear k1 w1 e2 e1 hq
  refine ⟨by decide, by decide, ?_⟩
  intro q S1 hq e1
  obtain ⟨k1, w1⟩ := RMe_s 42 12 1024 1042 rfl rfl rfl rfl R hq e1
  intro S2 e2
  replace R := w1 S2 e2
  clear k1 w1 e2 e1 hq
  refine ⟨by decide, by decide, ?_⟩
  intro q S1 hq e1
  obtain ⟨k1, w1⟩ := RMe_s 43 12 1024 1043 rfl rfl rfl rfl R hq e1
  intro S2 e2
  replace R := w1 S2 e2
  clear k1 w1 e2 e1 hq
  refine ⟨by decide, by decide, ?_⟩
  intro q S1 hq e1
  obtain ⟨k1, w1⟩ := RMe_s 44 12 1024 1044 rfl rfl rfl rfl R hq e1
  intro S2 e2
  replace R := w1 S2 e2
  clear k1 w1 e2 e1 hq
  refine ⟨by decide, by decide, ?_⟩
  intro q S1 hq e1
  obtain ⟨k1, w1⟩ := RMe_s 45 14 1024 1045 rfl rfl rfl rfl R hq e1
  intro S2 e2
  replace R := w1 S2 e2
  clear k1 w1 e2 e1 hq
  refine ⟨by decide, by decide, ?_⟩
  intro q S1 hq e1
  obtain ⟨k1, w1⟩ := RMe_s 46 12 5 1046 rfl rfl rfl rfl R hq e1
  intro S2 e2
  replace R := w1 S2 e2
  clear k1 w1 e2 e1 hq
  refine ⟨by decide, by decide, ?_⟩
  intro q S1 hq e1
  obtain ⟨k1, w1⟩ := RMe_s 47 12 5 1047 rfl rfl rfl rfl R hq e1
  intro S2 e2
  replace R := w1 S2 e2
  clear k1 w1 e2 e1 hq
  refine ⟨by decide, by decide, ?_⟩
  intro q S1 hq e1
  obtain ⟨k1, w1⟩ := RMe_s 48 13 6 1048 rfl rfl rfl rfl R hq e1
  intro S2 e2
  replace R := w1 S2 e2
  clear k1 w1 e2 e1 hq
  obtain ⟨A, R1⟩ := RMe_RM R
  rw [sg_0] at R1
  exact X9_a (by decide) (by decide) (h A) _ R1
end I
