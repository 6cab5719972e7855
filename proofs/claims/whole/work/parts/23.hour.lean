/-! an hour that goes by -/
theorem loop_st {N : Nat} (J : Nat → PT → Prop) (W : Nat → PT → Int32 → Prop)
    (h0 : ∀ n S, J N S → W (n + 1) S (nI N))
    (h1 : ∀ n i S, i < N → J i S → (∀ S', J (i + 1) S' → W n S' (nI (i + 1))) → W (n + 1) S (nI i)) : ∀ S, J 0 S → ∃ n, W n S 0 := by
  have key : ∀ d i S, i + d = N → J i S → W (d + 1) S (nI i) := by
    intro d
    induction d with
    | zero => intro i S hi hJ; have e : i = N := by omega
              subst e; exact h0 0 S hJ
    | succ d ih => intro i S hi hJ; exact h1 (d + 1) i S (by omega) hJ (fun S' hJ' => ih (i + 1) S' (by omega) hJ')
  exact fun S hJ => ⟨N + 1, key N 0 S (by omega) hJ⟩
abbrev AS : Type := SG × MU
noncomputable def z_set1 (x : AS) (k nW : Nat) : AS :=
  iT (x.1 33 k = 0 ∧ z_today x.1 = x.1 32 k + iT (x.1 29 k = 2) 2 5)
    (iT (z_bars x.1 k nW ≤ 0) (up2 (up2 x.1 33 k 1) 34 k 0, z_pay x.2 (x.1 24 k).toNatClampNeg 5 (z_cost x.1 k)) (up2 x.1 33 k 2, x.2)) x
noncomputable def z_set (x : AS) (nW : Nat) : Nat → AS
  | 0 => x
  | n + 1 => z_set1 (z_set x nW n) n nW
noncomputable def z_fin (σ : SG) (μ : MU) : Nat → MU
  | 0 => μ
  | n + 1 => iT (σ 33 n = 3 ∧ ¬ z_today σ ≤ z_last σ n) (z_pay (z_fin σ μ n) (σ 24 n).toNatClampNeg 5 (500 * (4 - σ 3 (σ 25 n).toNatClampNeg))) (z_fin σ μ n)
noncomputable def z_rent (σ : SG) (k nW : Nat) : Int32 := iT (z_share σ k nW) (50 * (4 - σ 3 (σ 25 k).toNatClampNeg) / 2) (50 * (4 - σ 3 (σ 25 k).toNatClampNeg))
noncomputable def z_ren (σ : SG) (μ : MU) (nW : Nat) : Nat → MU
  | 0 => μ
  | n + 1 => iT (z_takes σ n) (z_pay (z_pay (z_ren σ μ nW n) (σ 24 n).toNatClampNeg 5 (z_rent σ n nW)) (σ 24 n).toNatClampNeg 5 (iT (σ 34 n &&& 2 = 0) 0 200)) (z_ren σ μ nW n)
def z_w0 (σ : SG) : Nat → SG
  | 0 => σ
  | n + 1 => up2 (z_w0 σ n) 11 n 0
noncomputable def z_half (σ : SG) (s nW : Nat) : Int32 := iT (z_taken σ (nI s) nW ∧ ¬ σ 5 s = -1) (σ 4 s / 2) 0
def z_w1a (σ : SG) (s : Nat) (h : Int32) : SG := up2 σ 11 s (σ 11 s + (σ 4 s - h))
noncomputable def z_w1b (σ : SG) (s : Nat) (h : Int32) : SG := iT (h ≤ 0) (z_w1a σ s h) (up2 (z_w1a σ s h) 11 (σ 5 s).toNatClampNeg (z_w1a σ s h 11 (σ 5 s).toNatClampNeg + h))
noncomputable def z_w1 (σ : SG) (nW : Nat) : Nat → SG
  | 0 => σ
  | n + 1 => z_w1b (z_w1 σ nW n) n (z_half (z_w1 σ nW n) n nW)
noncomputable def z_thr (σ : SG) (s nW : Nat) : Int32 := iT (z_taken σ (nI s) nW) ((100 + 40 * (3 - σ 3 s)) / 2) (100 + 40 * (3 - σ 3 s))
noncomputable def z_w2 (σ : SG) (nW : Nat) : Nat → SG
  | 0 => σ
  | n + 1 => up2 (z_w2 σ nW n) 10 n (iT (0 ≤ z_w2 σ nW n 10 n + z_w2 σ nW n 11 n - z_thr (z_w2 σ nW n) n nW) (z_w2 σ nW n 10 n + z_w2 σ nW n 11 n - z_thr (z_w2 σ nW n) n nW) 0)
theorem iT_ind {α : Sort _} {P : Prop} {a b : α} (Q : α → Prop) (h1 : P → Q a) (h2 : ¬ P → Q b) : Q (iT P a b) := by
  by_cases h : P
  · rw [iT_T h]; exact h1 h
  · rw [iT_F h]; exact h2 h
theorem z_set1_f (x : AS) (k nW : Nat) {f : Nat} (i : Nat) (h3 : f ≠ 33) (h4 : f ≠ 34) : (z_set1 x k nW).1 f i = x.1 f i := by
  unfold z_set1
  refine iT_ind (fun y : AS => y.1 f i = x.1 f i) (fun _ => iT_ind (fun y : AS => y.1 f i = x.1 f i) (fun _ => ?_) (fun _ => ?_)) (fun _ => rfl)
  · show up2 (up2 x.1 33 k 1) 34 k 0 f i = _
    rw [up2_f _ _ _ _ h4, up2_f _ _ _ _ h3]
  · show up2 x.1 33 k 2 f i = _
    rw [up2_f _ _ _ _ h3]
theorem z_set_f (x : AS) (nW : Nat) {f : Nat} (i : Nat) (h3 : f ≠ 33) (h4 : f ≠ 34) : ∀ n, (z_set x nW n).1 f i = x.1 f i
  | 0 => rfl
  | n + 1 => by rw [z_set, z_set1_f _ _ _ _ h3 h4, z_set_f x nW i h3 h4 n]
theorem z_set1_B {x : AS} (B : IB x.1) (k nW : Nat) : IB (z_set1 x k nW).1 := by
  unfold z_set1
  refine iT_ind (fun y : AS => IB y.1) (fun _ => iT_ind (fun y : AS => IB y.1) (fun _ => ?_) (fun _ => ?_)) (fun _ => B)
  · exact IB_up (v := 0) (IB_up (v := 1) B 33 k (by decide) (by decide)) 34 k (by decide) (by decide)
  · exact IB_up (v := 2) B 33 k (by decide) (by decide)
theorem z_set_B {x : AS} (B : IB x.1) (nW : Nat) : ∀ n, IB (z_set x nW n).1
  | 0 => B
  | n + 1 => z_set1_B (z_set_B B nW n) n nW
theorem IB_10 {σ : SG} (B : IB σ) (i : Nat) (v : Int32) : IB (up2 σ 10 i v) := IB_up B 10 i (Ilo v) (by have := Ihi v; simp only [bh]; omega)
theorem IB_11 {σ : SG} (B : IB σ) (i : Nat) (v : Int32) : IB (up2 σ 11 i v) := IB_up B 11 i (Ilo v) (by have := Ihi v; simp only [bh]; omega)
theorem z_w0_B {σ : SG} (B : IB σ) : ∀ n, IB (z_w0 σ n)
  | 0 => B
  | n + 1 => IB_11 (z_w0_B B n) _ _
theorem z_w1b_B {σ : SG} (B : IB σ) (s : Nat) (h : Int32) : IB (z_w1b σ s h) := by
  unfold z_w1b z_w1a iT
  split
  · exact IB_11 B _ _
  · exact IB_11 (IB_11 B _ _) _ _
theorem z_w1_B {σ : SG} (B : IB σ) (nW : Nat) : ∀ n, IB (z_w1 σ nW n)
  | 0 => B
  | n + 1 => z_w1b_B (z_w1_B B nW n) _ _
theorem z_w2_B {σ : SG} (B : IB σ) (nW : Nat) : ∀ n, IB (z_w2 σ nW n)
  | 0 => B
  | n + 1 => IB_10 (z_w2_B B nW n) _ _
theorem z_w0_f (σ : SG) {f : Nat} (i : Nat) (h : f ≠ 11) : ∀ n, z_w0 σ n f i = σ f i
  | 0 => rfl
  | n + 1 => by rw [z_w0, up2_f _ _ _ _ h, z_w0_f σ i h n]
theorem z_w1b_f (σ : SG) (s : Nat) (v : Int32) {f : Nat} (i : Nat) (h : f ≠ 11) : z_w1b σ s v f i = σ f i := by
  unfold z_w1b z_w1a iT
  split
  · rw [up2_f _ _ _ _ h]
  · rw [up2_f _ _ _ _ h, up2_f _ _ _ _ h]
theorem z_w1_f (σ : SG) (nW : Nat) {f : Nat} (i : Nat) (h : f ≠ 11) : ∀ n, z_w1 σ nW n f i = σ f i
  | 0 => rfl
  | n + 1 => by rw [z_w1, z_w1b_f _ _ _ _ h, z_w1_f σ nW i h n]
theorem z_w2_f (σ : SG) (nW : Nat) {f : Nat} (i : Nat) (h : f ≠ 10) : ∀ n, z_w2 σ nW n f i = σ f i
  | 0 => rfl
  | n + 1 => by rw [z_w2, up2_f _ _ _ _ h, z_w2_f σ nW i h n]
noncomputable def z_waits (σ : SG) (nS nW : Nat) : SG := z_w2 (z_w1 (z_w0 σ nS) nW nS) nW nS
/-- the hour's end: rents and queues -/
noncomputable def z_ends (x : AS) (nS nW : Nat) : AS := (z_waits x.1 nS nW, iT (z_busy x.1) (z_ren x.1 x.2 nW nW) x.2)
noncomputable def z_late (x : AS) (nW : Nat) : AS := ((z_set x nW nW).1, z_fin (z_set x nW nW).1 (z_set x nW nW).2 nW)
noncomputable def z_hour (x : AS) (nS nW : Nat) : AS :=
  z_ends (iT ((x.1 0 0 + 1) - (x.1 0 0 + 1) / 24 * 24 = 0) (z_late (up2 x.1 0 0 (x.1 0 0 + 1), x.2) nW) (up2 x.1 0 0 (x.1 0 0 + 1), x.2)) nS nW
section Q
variable {A : Nat → Nat} {m : Nat} {S : PT} {σ : SG} {μ : MU}
theorem r_settles {nW : Nat} (R : RM A m S σ μ) (B : IB σ) (hn : σ 23 0 = nI nW) (hW : nW ≤ 24) {post : PT → Prop}
    (h : ∀ S', RM A m S' (z_set (σ, μ) nW nW).1 (z_set (σ, μ) nW nW).2 → post S') : w_X9_settles m S post := by
  unfold w_X9_settles
  refine loop_st (N := nW) (fun i S => RM A m S (z_set (σ, μ) nW i).1 (z_set (σ, μ) nW i).2) (fun n S v => w_X9_settles_l2 m post n S v) (fun n S R => ?_) (fun n i S hi R ih => ?_) S R
  · unfold w_X9_settles_l2
    have hn2 : (z_set (σ, μ) nW nW).1 23 0 = nI nW := by rw [z_set_f _ _ _ (by decide) (by decide)]; exact hn
    have c : nI nW ≤ nI nW := by rw [qn_le (by omega) (by omega)]; omega
    simp only [RM_all R, Option.some.injEq, exists_eq_left', true_and, and_true, isIn_eq, bI_0, Classical.not_not, bo_0, bo_1, bI_bo, up2_s, up2_f, ne_eq, Nat.reduceEqDiff, not_false_eq_true, hn2, c]
    exact ⟨fun _ => h S R, fun n => absurd trivial n⟩
  · have B1 : IB (z_set (σ, μ) nW i).1 := z_set_B B nW i
    have hn2 : (z_set (σ, μ) nW i).1 23 0 = nI nW := by rw [z_set_f _ _ _ (by decide) (by decide)]; exact hn
    have e : z_set (σ, μ) nW (i + 1) = z_set1 (z_set (σ, μ) nW i) i nW := rfl
    rw [e] at ih
    generalize hx : z_set (σ, μ) nW i = x at *
    have c : ¬ nI nW ≤ nI i := by rw [qn_le (by omega) (by omega)]; omega
    have g1 : vp_in (nI i) 24 := vin_nI (by omega) (by decide)
    have g2 : (nI i).toNatClampNeg = i := qn_nat (by omega)
    unfold w_X9_settles_l2 w_X9_settles_b44 w_X9_settles_b73
    simp only [RM_all R, Option.some.injEq, exists_eq_left', true_and, and_true, isIn_eq, bI_0, Classical.not_not, bo_0, bo_1, bI_bo, up2_s, up2_f, ne_eq, Nat.reduceEqDiff, not_false_eq_true, hn2, c, g1, g2, r_today R, qn_s, r_barsOf R B1 (show i < 24 by omega) hn2 hW]
    have no : (¬ (x.1 33 i = 0 ∧ z_today x.1 = x.1 32 i + iT (x.1 29 i = 2) 2 5)) → w_X9_settles_l2 m post n S (nI (i + 1)) := fun hc => ih S (by rw [z_set1, iT_F hc]; exact R)
    have yes : ∀ v, v = iT (x.1 29 i = 2) 2 5 → x.1 33 i = 0 → (¬ z_today x.1 = x.1 32 i + v → w_X9_settles_l2 m post n S (nI (i + 1))) ∧
        (z_today x.1 = x.1 32 i + v → (z_bars x.1 i nW ≤ 0 → w_X9_grants m (nI i) 0 S (fun r6 S5 => w_X9_settles_l2 m post n S5 (nI (i + 1)))) ∧
          (¬ z_bars x.1 i nW ≤ 0 → ∀ S12, S12 = sA S (A 33) i 2 → w_X9_settles_l2 m post n S12 (nI (i + 1)))) := by
      intro v hv h3
      refine ⟨fun ht => no (fun hc => ht (by rw [hv]; exact hc.2)), fun ht => ?_⟩
      have hc : x.1 33 i = 0 ∧ z_today x.1 = x.1 32 i + iT (x.1 29 i = 2) 2 5 := ⟨h3, by rw [← hv]; exact ht⟩
      rw [z_set1, iT_T hc] at ih
      refine ⟨fun hb => ?_, fun hb => ?_⟩
      · rw [iT_T hb] at ih
        exact r_grants R B1 (by omega) 0 (fun S' R' => ih S' R')
      · rw [iT_F hb] at ih
        exact RM_uA R rfl (by decide) (fun S' R' => ih S' R')
    refine ⟨fun n => n.elim, fun _ => ⟨fun h3 => no (fun hc => h3 hc.1), fun h3 => ⟨fun h2 => ?_, fun h2 => ?_⟩⟩⟩
    · exact yes 5 (by rw [iT_F h2]) h3
    · exact yes 2 (by rw [iT_T h2]) h3
theorem r_rents {nW : Nat} (R : RM A m S σ μ) (B : IB σ) (hn : σ 23 0 = nI nW) (hW : nW ≤ 24) {post : PT → Prop}
    (h : ∀ S', RM A m S' σ (z_ren σ μ nW nW) → post S') : w_X9_rents m S post := by
  unfold w_X9_rents
  refine loop_st (N := nW) (fun i S => RM A m S σ (z_ren σ μ nW i)) (fun n S v => w_X9_rents_l2 m post n S v) (fun n S R => ?_) (fun n i S hi R ih => ?_) S R
  · unfold w_X9_rents_l2
    have c : nI nW ≤ nI nW := by rw [qn_le (by omega) (by omega)]; omega
    simp only [RM_all R, Option.some.injEq, exists_eq_left', true_and, and_true, isIn_eq, bI_0, Classical.not_not, bo_0, bo_1, bI_bo, up2_s, up2_f, ne_eq, Nat.reduceEqDiff, not_false_eq_true, hn, c]
    exact ⟨fun _ => h S R, fun n => absurd trivial n⟩
  · have c : ¬ nI nW ≤ nI i := by rw [qn_le (by omega) (by omega)]; omega
    have g1 : vp_in (nI i) 24 := vin_nI (by omega) (by decide)
    have g2 : (nI i).toNatClampNeg = i := qn_nat (by omega)
    have e2 : vp_in (σ 24 i) 6 := IB_vin B 24 i 6 (by decide) (by decide)
    unfold w_X9_rents_l2 w_X9_rents_b82
    simp only [RM_all R, Option.some.injEq, exists_eq_left', true_and, and_true, isIn_eq, bI_0, Classical.not_not, bo_0, bo_1, bI_bo, up2_s, up2_f, ne_eq, Nat.reduceEqDiff, not_false_eq_true, hn, c, g1, g2, qn_s, r_takes R (show i < 24 by omega), r_grade R B (show i < 24 by omega), r_shares R (show i < 24 by omega) hn hW]
    refine ⟨fun n => n.elim, fun _ => ⟨fun ht => ih S (by rw [z_ren, iT_F ht]; exact R), fun ht => ?_⟩⟩
    rw [z_ren, iT_T ht] at ih
    have b79 : ∀ S1 μ1 v, RM A m S1 σ μ1 → v = iT (σ 34 i &&& 2 = 0) 0 200 → μ1 = z_pay (z_ren σ μ nW i) (σ 24 i).toNatClampNeg 5 (z_rent σ i nW) →
        w_X9_rents_b79 m post (w_X9_rents_l2 m post n) S1 (nI i) (some m) (σ 24 i) 5 v := by
      intro S1 μ1 v R1 hv hm
      unfold w_X9_rents_b79 w_X9_rents_b82
      simp only [RM_all R1, Option.some.injEq, exists_eq_left', true_and, and_true, isIn_eq, bI_0, Classical.not_not, bo_0, bo_1, bI_bo, up2_s, up2_f, ne_eq, Nat.reduceEqDiff, not_false_eq_true, qn_s]
      refine r_pays R1 e2 five_in v (fun S2 R2 => ih S2 ?_)
      rw [five_nat, hm, hv] at R2
      exact R2
    have b50 : ∀ v, v = z_rent σ i nW → w_X9_rents_b50 m post (w_X9_rents_l2 m post n) S (nI i) (some m) (σ 24 i) 5 v := by
      intro v hv
      unfold w_X9_rents_b50
      simp only [RM_all R, Option.some.injEq, exists_eq_left', true_and, and_true, isIn_eq, bI_0, Classical.not_not, bo_0, bo_1, bI_bo, up2_s, up2_f, ne_eq, Nat.reduceEqDiff, not_false_eq_true]
      refine r_pays R e2 five_in v (fun S2 R2 => ?_)
      rw [five_nat, hv] at R2
      simp only [RM_all R2, Option.some.injEq, exists_eq_left', true_and, and_true, isIn_eq, bI_0, Classical.not_not, bo_0, bo_1, bI_bo, up2_s, up2_f, ne_eq, Nat.reduceEqDiff, not_false_eq_true, g1, g2]
      exact ⟨fun h2 => b79 S2 _ 0 R2 (by rw [iT_T h2]) rfl, fun h2 => b79 S2 _ 200 R2 (by rw [iT_F h2]) rfl⟩
    exact ⟨fun hs => b50 _ (by rw [z_rent, iT_F hs]), fun hs => b50 _ (by rw [z_rent, iT_T hs])⟩
end Q
