/-! an hour that goes by -/
theorem loop_st {N : Nat} (J : Nat → PT → Prop) (W : Nat → PT → Int32 → Prop)
    (h0 : ∀ n S, J N S → W (n + 1) S (nI N))
    (h1 : ∀ n i S, i < N → J i S → (∀ S', J (i + 1) S' → W n S' (nI (i + 1))) → W (n + 1) S (nI i)) : ∀ S, J 0 S → ∃ n, W n S 0 := by
  have key : ∀ d i S, i + d = N → J i S → W (d + 1) S (nI i) := by
    intro d
    induction d with
    | zero => intro i S hi hJ; have e : i = N := by omega
              subst e; exact h0 0 S hJ
    | succ d ih => intro i S hi hJ; exact h1 (d + 1) i S (by omega) hJ (fun S' hJ' => ih (i + 1) S' (by omega) hJ')
  exact fun S hJ => ⟨N + 1, key N 0 S (by omega) hJ⟩
abbrev AS : Type := SG × MU
noncomputable def z_set1 (x : AS) (k nW : Nat) : AS :=
  iT (x.1 33 k = 0 ∧ z_today x.1 = x.1 32 k + iT (x.1 29 k = 2) 2 5)
    (iT (z_bars x.1 k nW ≤ 0) (up2 (up2 x.1 33 k 1) 34 k 0, z_pay x.2 (x.1 24 k).toNatClampNeg 5 (z_cost x.1 k)) (up2 x.1 33 k 2, x.2)) x
noncomputable def z_set (x : AS) (nW : Nat) : Nat → AS
  | 0 => x
  | n + 1 => z_set1 (z_set x nW n) n nW
noncomputable def z_fin (σ : SG) (μ : MU) : Nat → MU
  | 0 => μ
  | n + 1 => iT (σ 33 n = 3 ∧ ¬ z_today σ ≤ z_last σ n) (z_pay (z_fin σ μ n) (σ 24 n).toNatClampNeg 5 (500 * (4 - σ 3 (σ 25 n).toNatClampNeg))) (z_fin σ μ n)
noncomputable def z_rent (σ : SG) (k nW : Nat) : Int32 := iT (z_share σ k nW) (50 * (4 - σ 3 (σ 25 k).toNatClampNeg) / 2) (50 * (4 - σ 3 (σ 25 k).toNatClampNeg))
noncomputable def z_ren (σ : SG) (μ : MU) (nW : Nat) : Nat → MU
  | 0 => μ
  | n + 1 => iT (z_takes σ n) (z_pay (z_pay (z_ren σ μ nW n) (σ 24 n).toNatClampNeg 5 (z_rent σ n nW)) (σ 24 n).toNatClampNeg 5 (iT (σ 34 n &&& 2 = 0) 0 200)) (z_ren σ μ nW n)
def z_w0 (σ : SG) : Nat → SG
  | 0 => σ
  | n + 1 => up2 (z_w0 σ n) 11 n 0
noncomputable def z_half (σ : SG) (s nW : Nat) : Int32 := iT (z_taken σ (nI s) nW ∧ ¬ σ 5 s = -1) (σ 4 s / 2) 0
def z_w1a (σ : SG) (s : Nat) (h : Int32) : SG := up2 σ 11 s (σ 11 s + (σ 4 s - h))
noncomputable def z_w1b (σ : SG) (s : Nat) (h : Int32) : SG := iT (h ≤ 0) (z_w1a σ s h) (up2 (z_w1a σ s h) 11 (σ 5 s).toNatClampNeg (z_w1a σ s h 11 (σ 5 s).toNatClampNeg + h))
noncomputable def z_w1 (σ : SG) (nW : Nat) : Nat → SG
  | 0 => σ
  | n + 1 => z_w1b (z_w1 σ nW n) n (z_half (z_w1 σ nW n) n nW)
noncomputable def z_thr (σ : SG) (s nW : Nat) : Int32 := iT (z_taken σ (nI s) nW) ((100 + 40 * (3 - σ 3 s)) / 2) (100 + 40 * (3 - σ 3 s))
noncomputable def z_w2 (σ : SG) (nW : Nat) : Nat → SG
  | 0 => σ
  | n + 1 => up2 (z_w2 σ nW n) 10 n (iT (0 ≤ z_w2 σ nW n 10 n + z_w2 σ nW n 11 n - z_thr (z_w2 σ nW n) n nW) (z_w2 σ nW n 10 n + z_w2 σ nW n 11 n - z_thr (z_w2 σ nW n) n nW) 0)
theorem iT_ind {α : Sort _} {P : Prop} {a b : α} (Q : α → Prop) (h1 : P → Q a) (h2 : ¬ P → Q b) : Q (iT P a b) := by
  by_cases h : P
  · rw [iT_T h]; exact h1 h
  · rw [iT_F h]; exact h2 h
theorem z_set1_f (x : AS) (k nW : Nat) {f : Nat} (i : Nat) (h3 : f ≠ 33) (h4 : f ≠ 34) : (z_set1 x k nW).1 f i = x.1 f i := by
  unfold z_set1
  refine iT_ind (fun y : AS => y.1 f i = x.1 f i) (fun _ => iT_ind (fun y : AS => y.1 f i = x.1 f i) (fun _ => ?_) (fun _ => ?_)) (fun _ => rfl)
  · show up2 (up2 x.1 33 k 1) 34 k 0 f i = _
    rw [up2_f _ _ _ _ h4, up2_f _ _ _ _ h3]
  · show up2 x.1 33 k 2 f i = _
    rw [up2_f _ _ _ _ h3]
theorem z_set_f (x : AS) (nW : Nat) {f : Nat} (i : Nat) (h3 : f ≠ 33) (h4 : f ≠ 34) : ∀ n, (z_set x nW n).1 f i = x.1 f i
  | 0 => rfl
  | n + 1 => by rw [z_set, z_set1_f _ _ _ _ h3 h4, z_set_f x nW i h3 h4 n]
theorem z_set1_B {x : AS} (B : IB x.1) (k nW : Nat) : IB (z_set1 x k nW).1 := by
  unfold z_set1
  refine iT_ind (fun y : AS => IB y.1) (fun _ => iT_ind (fun y : AS => IB y.1) (fun _ => ?_) (fun _ => ?_)) (fun _ => B)
  · exact IB_up (v := 0) (IB_up (v := 1) B 33 k (by decide) (by decide)) 34 k (by decide) (by decide)
  · exact IB_up (v := 2) B 33 k (by decide) (by decide)
theorem z_set_B {x : AS} (B : IB x.1) (nW : Nat) : ∀ n, IB (z_set x nW n).1
  | 0 => B
  | n + 1 => z_set1_B (z_set_B B nW n) n nW
theorem IB_10 {σ : SG} (B : IB σ) (i : Nat) (v : Int32) : IB (up2 σ 10 i v) := IB_up B 10 i (Ilo v) (by have := Ihi v; simp only [bh]; omega)
theorem IB_11 {σ : SG} (B : IB σ) (i : Nat) (v : Int32) : IB (up2 σ 11 i v) := IB_up B 11 i (Ilo v) (by have := Ihi v; simp only [bh]; omega)
theorem z_w0_B {σ : SG} (B : IB σ) : ∀ n, IB (z_w0 σ n)
  | 0 => B
  | n + 1 => IB_11 (z_w0_B B n) _ _
theorem z_w1b_B {σ : SG} (B : IB σ) (s : Nat) (h : Int32) : IB (z_w1b σ s h) := by
  unfold z_w1b z_w1a iT
  split
  · exact IB_11 B _ _
  · exact IB_11 (IB_11 B _ _) _ _
theorem z_w1_B {σ : SG} (B : IB σ) (nW : Nat) : ∀ n, IB (z_w1 σ nW n)
  | 0 => B
  | n + 1 => z_w1b_B (z_w1_B B nW n) _ _
theorem z_w2_B {σ : SG} (B : IB σ) (nW : Nat) : ∀ n, IB (z_w2 σ nW n)
  | 0 => B
  | n + 1 => IB_10 (z_w2_B B nW n) _ _
theorem z_w0_f (σ : SG) {f : Nat} (i : Nat) (h : f ≠ 11) : ∀ n, z_w0 σ n f i = σ f i
  | 0 => rfl
  | n + 1 => by rw [z_w0, up2_f _ _ _ _ h, z_w0_f σ i h n]
theorem z_w1b_f (σ : SG) (s : Nat) (v : Int32) {f : Nat} (i : Nat) (h : f ≠ 11) : z_w1b σ s v f i = σ f i := by
  unfold z_w1b z_w1a iT
  split
  · rw [up2_f _ _ _ _ h]
  · rw [up2_f _ _ _ _ h, up2_f _ _ _ _ h]
theorem z_w1_f (σ : SG) (nW : Nat) {f : Nat} (i : Nat) (h : f ≠ 11) : ∀ n, z_w1 σ nW n f i = σ f i
  | 0 => rfl
  | n + 1 => by rw [z_w1, z_w1b_f _ _ _ _ h, z_w1_f σ nW i h n]
theorem z_w2_f (σ : SG) (nW : Nat) {f : Nat} (i : Nat) (h : f ≠ 10) : ∀ n, z_w2 σ nW n f i = σ f i
  | 0 => rfl
  | n + 1 => by rw [z_w2, up2_f _ _ _ _ h, z_w2_f σ nW i h n]
noncomputable def z_waits (σ : SG) (nS nW : Nat) : SG := z_w2 (z_w1 (z_w0 σ nS) nW nS) nW nS
/-- the hour's end: rents and queues -/
noncomputable def z_ends (x : AS) (nS nW : Nat) : AS := (z_waits x.1 nS nW, iT (z_busy x.1) (z_ren x.1 x.2 nW nW) x.2)
noncomputable def z_late (x : AS) (nW : Nat) : AS := ((z_set x nW nW).1, z_fin (z_set x nW nW).1 (z_set x nW nW).2 nW)
noncomputable def z_hour (x : AS) (nS nW : Nat) : AS :=
  z_ends (iT ((x.1 0 0 + 1) - (x.1 0 0 + 1) / 24 * 24 = 0) (z_late (up2 x.1 0 0 (x.1 0 0 + 1), x.2) nW) (up2 x.1 0 0 (x.1 0 0 + 1), x.2)) nS nW
section Q
variable {A : Nat → Nat} {m : Nat} {S : PT} {σ : SG} {μ : MU}
end Q
