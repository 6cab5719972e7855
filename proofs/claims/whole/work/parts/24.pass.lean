/-! queues, hours -/
section Q
variable {A : Nat → Nat} {m : Nat} {S : PT} {σ : SG} {μ : MU}
theorem r_waits2 {nW nS : Nat} (R : RM A m S σ μ) (B : IB σ) (hn : σ 23 0 = nI nW) (hW : nW ≤ 24) (hs : σ 1 0 = nI nS) (hS : nS ≤ 6) {post : PT → Prop}
    (h : ∀ S', RM A m S' (z_w2 σ nW nS) μ → post S') : ∃ n, w_X9_waits_l108 m post n S 0 := by
  refine loop_st (N := nS) (fun i S => RM A m S (z_w2 σ nW i) μ) (fun n S v => w_X9_waits_l108 m post n S v) (fun n S R => ?_) (fun n i S hi R ih => ?_) S R
  · unfold w_X9_waits_l108
    have hs2 : z_w2 σ nW nS 1 0 = nI nS := by rw [z_w2_f _ _ _ (by decide)]; exact hs
    have c : nI nS ≤ nI nS := by rw [qn_le (by omega) (by omega)]; omega
    simp only [RM_all R, Option.some.injEq, exists_eq_left', true_and, and_true, isIn_eq, bI_0, Classical.not_not, bo_0, bo_1, bI_bo, up2_s, up2_f, ne_eq, Nat.reduceEqDiff, not_false_eq_true, hs2, c]
    exact ⟨fun _ => h S R, fun n => absurd trivial n⟩
  · have hn2 : z_w2 σ nW i 23 0 = nI nW := by rw [z_w2_f _ _ _ (by decide)]; exact hn
    have hs2 : z_w2 σ nW i 1 0 = nI nS := by rw [z_w2_f _ _ _ (by decide)]; exact hs
    have e : z_w2 σ nW (i + 1) = up2 (z_w2 σ nW i) 10 i (iT (0 ≤ z_w2 σ nW i 10 i + z_w2 σ nW i 11 i - z_thr (z_w2 σ nW i) i nW) (z_w2 σ nW i 10 i + z_w2 σ nW i 11 i - z_thr (z_w2 σ nW i) i nW) 0) := rfl
    rw [e] at ih
    generalize hx : z_w2 σ nW i = x at *
    have c : ¬ nI nS ≤ nI i := by rw [qn_le (by omega) (by omega)]; omega
    have g1 : vp_in (nI i) 6 := vin_nI (by omega) (by decide)
    have g2 : (nI i).toNatClampNeg = i := qn_nat (by omega)
    unfold w_X9_waits_l108
    simp only [RM_all R, Option.some.injEq, exists_eq_left', true_and, and_true, isIn_eq, bI_0, Classical.not_not, bo_0, bo_1, bI_bo, up2_s, up2_f, ne_eq, Nat.reduceEqDiff, not_false_eq_true, hs2, c, g1, g2, r_isTaken R hn2 hW]
    have b : ∀ v, v = z_thr x i nW → w_X9_waits_b146 m post (w_X9_waits_l108 m post n) S (nI i) v := by
      intro v hv
      unfold w_X9_waits_b146 w_X9_waits_b177
      simp only [RM_all R, Option.some.injEq, exists_eq_left', true_and, and_true, isIn_eq, bI_0, Classical.not_not, bo_0, bo_1, bI_bo, up2_s, up2_f, ne_eq, Nat.reduceEqDiff, not_false_eq_true, g1, g2, qn_s]
      rw [hv]
      refine ⟨fun h0 => ?_, fun h0 => ?_⟩
      · rw [iT_T h0] at ih
        exact RM_uA R rfl (by decide) (fun S' R' => ih S' R')
      · rw [iT_F h0] at ih
        exact RM_uA R rfl (by decide) (fun S' R' => ih S' R')
    exact ⟨fun n => n.elim, fun _ => ⟨fun ht => b _ (by rw [z_thr, iT_F ht]), fun ht => b _ (by rw [z_thr, iT_T ht])⟩⟩
theorem r_waits1 {nW nS : Nat} (R : RM A m S σ μ) (B : IB σ) (hn : σ 23 0 = nI nW) (hW : nW ≤ 24) (hs : σ 1 0 = nI nS) (hS : nS ≤ 6) {post : PT → Prop}
    (h : ∀ S', RM A m S' (z_w2 (z_w1 σ nW nS) nW nS) μ → post S') : ∃ n, w_X9_waits_l25 m post n S 0 := by
  refine loop_st (N := nS) (fun i S => RM A m S (z_w1 σ nW i) μ) (fun n S v => w_X9_waits_l25 m post n S v) (fun n S R => ?_) (fun n i S hi R ih => ?_) S R
  · unfold w_X9_waits_l25
    have hs2 : z_w1 σ nW nS 1 0 = nI nS := by rw [z_w1_f _ _ _ (by decide)]; exact hs
    have hn2 : z_w1 σ nW nS 23 0 = nI nW := by rw [z_w1_f _ _ _ (by decide)]; exact hn
    have c : nI nS ≤ nI nS := by rw [qn_le (by omega) (by omega)]; omega
    simp only [RM_all R, Option.some.injEq, exists_eq_left', true_and, and_true, isIn_eq, bI_0, Classical.not_not, bo_0, bo_1, bI_bo, up2_s, up2_f, ne_eq, Nat.reduceEqDiff, not_false_eq_true, hs2, c]
    exact ⟨fun _ => r_waits2 R (z_w1_B B nW nS) hn2 hW hs2 hS h, fun n => absurd trivial n⟩
  · have hn2 : z_w1 σ nW i 23 0 = nI nW := by rw [z_w1_f _ _ _ (by decide)]; exact hn
    have hs2 : z_w1 σ nW i 1 0 = nI nS := by rw [z_w1_f _ _ _ (by decide)]; exact hs
    have B1 := z_w1_B B nW i
    have e : z_w1 σ nW (i + 1) = z_w1b (z_w1 σ nW i) i (z_half (z_w1 σ nW i) i nW) := rfl
    rw [e] at ih
    generalize hx : z_w1 σ nW i = x at *
    have c : ¬ nI nS ≤ nI i := by rw [qn_le (by omega) (by omega)]; omega
    have g1 : vp_in (nI i) 6 := vin_nI (by omega) (by decide)
    have g2 : (nI i).toNatClampNeg = i := qn_nat (by omega)
    unfold w_X9_waits_l25 w_X9_waits_b62
    simp only [RM_all R, Option.some.injEq, exists_eq_left', true_and, and_true, isIn_eq, bI_0, Classical.not_not, bo_0, bo_1, bI_bo, up2_s, up2_f, ne_eq, Nat.reduceEqDiff, not_false_eq_true, hs2, c, g1, g2, r_isTaken R hn2 hW]
    have b : ∀ v, v = z_half x i nW → (¬ v ≤ 0 → ¬ x 5 i = -1) → w_X9_waits_b63 m post (w_X9_waits_l25 m post n) S (nI i) v := by
      intro v hv hv5
      unfold w_X9_waits_b63 w_X9_waits_b100
      simp only [RM_all R, Option.some.injEq, exists_eq_left', true_and, and_true, isIn_eq, bI_0, Classical.not_not, bo_0, bo_1, bI_bo, up2_s, up2_f, ne_eq, Nat.reduceEqDiff, not_false_eq_true, g1, g2, qn_s]
      refine RM_uA R rfl (by decide) (fun S1 R1 => ⟨fun h0 => ?_, fun h0 => ?_⟩)
      · rw [← hv, z_w1b, iT_T h0] at ih
        exact ih S1 R1
      · have h5 : vp_in (x 5 i) 6 := by
          have h6 := hv5 h0
          have := B1 5 i
          simp only [bl, bh] at this
          rw [ieq, show (-1 : Int32).toInt = -1 from by decide] at h6
          unfold vp_in Int32.toNatClampNeg
          rw [ilt, I0]; simp at this; omega
        simp only [RM_all R1, Option.some.injEq, exists_eq_left', true_and, and_true, isIn_eq, bI_0, Classical.not_not, bo_0, bo_1, bI_bo, up2_s, up2_f, ne_eq, Nat.reduceEqDiff, not_false_eq_true, g1, g2, h5]
        rw [← hv, z_w1b, iT_F h0] at ih
        exact RM_uA R1 rfl (by decide) (fun S2 R2 => ih S2 R2)
    have b0 : z_half x i nW = 0 → w_X9_waits_b63 m post (w_X9_waits_l25 m post n) S (nI i) 0 := fun h0 => b 0 h0.symm (fun n => absurd (by decide) n)
    refine ⟨fun n => n.elim, fun _ => ⟨fun ht => b0 (by rw [z_half, iT_F (fun n => ht n.1)]), fun ht => ⟨fun h5 => b0 (by rw [z_half, iT_F (fun n => n.2 h5)]), fun h5 => b _ (by rw [z_half, iT_T ⟨ht, h5⟩]) (fun _ => h5)⟩⟩⟩
theorem r_waits {nW nS : Nat} (R : RM A m S σ μ) (B : IB σ) (hn : σ 23 0 = nI nW) (hW : nW ≤ 24) (hs : σ 1 0 = nI nS) (hS : nS ≤ 6) {post : PT → Prop}
    (h : ∀ S', RM A m S' (z_waits σ nS nW) μ → post S') : w_X9_waits m S post := by
  unfold w_X9_waits
  refine loop_st (N := nS) (fun i S => RM A m S (z_w0 σ i) μ) (fun n S v => w_X9_waits_l2 m post n S v) (fun n S R => ?_) (fun n i S hi R ih => ?_) S R
  · unfold w_X9_waits_l2
    have hs2 : z_w0 σ nS 1 0 = nI nS := by rw [z_w0_f _ _ (by decide)]; exact hs
    have hn2 : z_w0 σ nS 23 0 = nI nW := by rw [z_w0_f _ _ (by decide)]; exact hn
    have c : nI nS ≤ nI nS := by rw [qn_le (by omega) (by omega)]; omega
    simp only [RM_all R, Option.some.injEq, exists_eq_left', true_and, and_true, isIn_eq, bI_0, Classical.not_not, bo_0, bo_1, bI_bo, up2_s, up2_f, ne_eq, Nat.reduceEqDiff, not_false_eq_true, hs2, c]
    exact ⟨fun _ => r_waits1 R (z_w0_B B nS) hn2 hW hs2 hS h, fun n => absurd trivial n⟩
  · have hs2 : z_w0 σ i 1 0 = nI nS := by rw [z_w0_f _ _ (by decide)]; exact hs
    have c : ¬ nI nS ≤ nI i := by rw [qn_le (by omega) (by omega)]; omega
    have g1 : vp_in (nI i) 6 := vin_nI (by omega) (by decide)
    have g2 : (nI i).toNatClampNeg = i := qn_nat (by omega)
    unfold w_X9_waits_l2
    simp only [RM_all R, Option.some.injEq, exists_eq_left', true_and, and_true, isIn_eq, bI_0, Classical.not_not, bo_0, bo_1, bI_bo, up2_s, up2_f, ne_eq, Nat.reduceEqDiff, not_false_eq_true, hs2, c, g1, g2, qn_s]
    exact ⟨fun n => n.elim, fun _ => RM_uA R rfl (by decide) (fun S1 R1 => ih S1 R1)⟩
theorem r_fines {nW : Nat} (R : RM A m S σ μ) (B : IB σ) (hn : σ 23 0 = nI nW) (hW : nW ≤ 24) {post : PT → Prop}
    (h : ∀ S', RM A m S' σ (z_fin σ μ nW) → w_X9_goesBy_b82 m post S') : ∃ n, w_X9_goesBy_l26 m post n S 0 := by
  refine loop_st (N := nW) (fun i S => RM A m S σ (z_fin σ μ i)) (fun n S v => w_X9_goesBy_l26 m post n S v) (fun n S R => ?_) (fun n i S hi R ih => ?_) S R
  · unfold w_X9_goesBy_l26
    have c : nI nW ≤ nI nW := by rw [qn_le (by omega) (by omega)]; omega
    simp only [RM_all R, Option.some.injEq, exists_eq_left', true_and, and_true, isIn_eq, bI_0, Classical.not_not, bo_0, bo_1, bI_bo, up2_s, up2_f, ne_eq, Nat.reduceEqDiff, not_false_eq_true, hn, c]
    exact ⟨fun _ => h S R, fun n => absurd trivial n⟩
  · have c : ¬ nI nW ≤ nI i := by rw [qn_le (by omega) (by omega)]; omega
    have g1 : vp_in (nI i) 24 := vin_nI (by omega) (by decide)
    have g2 : (nI i).toNatClampNeg = i := qn_nat (by omega)
    have e2 : vp_in (σ 24 i) 6 := IB_vin B 24 i 6 (by decide) (by decide)
    unfold w_X9_goesBy_l26 w_X9_goesBy_b76
    simp only [RM_all R, Option.some.injEq, exists_eq_left', true_and, and_true, isIn_eq, bI_0, Classical.not_not, bo_0, bo_1, bI_bo, up2_s, up2_f, ne_eq, Nat.reduceEqDiff, not_false_eq_true, hn, c, g1, g2, qn_s, r_lastDay R (show i < 24 by omega), r_today R, r_grade R B (show i < 24 by omega)]
    have no : ¬ (σ 33 i = 3 ∧ ¬ z_today σ ≤ z_last σ i) → w_X9_goesBy_l26 m post n S (nI (i + 1)) := fun hc => ih S (by rw [z_fin, iT_F hc]; exact R)
    refine ⟨fun n => n.elim, fun _ => ⟨fun h3 => no (fun hc => h3 hc.1), fun h3 => ⟨fun ht => no (fun hc => hc.2 ht), fun ht => ?_⟩⟩⟩
    refine r_pays R e2 five_in _ (fun S2 R2 => ih S2 ?_)
    rw [five_nat] at R2
    rw [z_fin, iT_T ⟨h3, ht⟩]
    exact R2
theorem r_goesBy {nW nS : Nat} (R : RM A m S σ μ) (B : IB σ) (hh : (σ 0 0).toInt < 9999) (hn : σ 23 0 = nI nW) (hW : nW ≤ 24) (hs : σ 1 0 = nI nS) (hS : nS ≤ 6) {post : PT → Prop}
    (h : ∀ S', RM A m S' (z_hour (σ, μ) nS nW).1 (z_hour (σ, μ) nS nW).2 → post S') : w_X9_goesBy m S post := by
  unfold w_X9_goesBy
  simp only [RM_all R, Option.some.injEq, exists_eq_left', true_and, and_true, isIn_eq, bI_0, Classical.not_not, bo_0, bo_1, bI_bo, up2_s, up2_f, ne_eq, Nat.reduceEqDiff, not_false_eq_true]
  refine RM_uI R 0 rfl rfl (fun S1 R1 => ?_)
  have hb := B 0 0
  have hb0 : (0 : Int) ≤ (σ 0 0).toInt := hb.1
  have B1 : IB (up2 σ 0 0 (σ 0 0 + 1)) := by
    refine IB_up B 0 0 ?_ ?_
    · show (0 : Int) ≤ _
      rw [tadd, show (1 : Int32).toInt = 1 from by decide]; omega
    · show _ ≤ (9999 : Int)
      rw [tadd, show (1 : Int32).toInt = 1 from by decide]; omega
  have ends : ∀ (x : AS) (S2 : PT), RM A m S2 x.1 x.2 → IB x.1 → x.1 23 0 = nI nW → x.1 1 0 = nI nS → (∀ S', RM A m S' (z_ends x nS nW).1 (z_ends x nS nW).2 → post S') → w_X9_goesBy_b82 m post S2 := by
    intro x S2 R2 B2 hn2 hs2 hp
    unfold w_X9_goesBy_b82 w_X9_goesBy_b93
    unfold z_ends at hp
    simp only [RM_all R2, Option.some.injEq, exists_eq_left', true_and, and_true, isIn_eq, bI_0, Classical.not_not, bo_0, bo_1, bI_bo, up2_s, up2_f, ne_eq, Nat.reduceEqDiff, not_false_eq_true, r_isBusy R2]
    refine ⟨fun hbz => ?_, fun hbz => ?_⟩
    · rw [iT_F hbz] at hp
      exact r_waits R2 B2 hn2 hW hs2 hS hp
    · rw [iT_T hbz] at hp
      refine r_rents R2 B2 hn2 hW (fun S3 R3 => ?_)
      simp only [RM_all R3, Option.some.injEq, exists_eq_left', true_and, and_true, isIn_eq, bI_0, Classical.not_not, bo_0, bo_1, bI_bo, up2_s, up2_f, ne_eq, Nat.reduceEqDiff, not_false_eq_true]
      exact r_waits R3 B2 hn2 hW hs2 hS hp
  unfold z_hour at h
  refine ⟨fun hd => ?_, fun hd => ?_⟩
  · simp only [RM_all R1, Option.some.injEq, exists_eq_left', true_and, and_true, isIn_eq, bI_0, Classical.not_not, bo_0, bo_1, bI_bo, up2_s, up2_f, ne_eq, Nat.reduceEqDiff, not_false_eq_true] at hd
    rw [iT_F hd] at h
    exact ends _ S1 R1 B1 (by simp only [up2_f, ne_eq, Nat.reduceEqDiff, not_false_eq_true]; exact hn) (by simp only [up2_f, ne_eq, Nat.reduceEqDiff, not_false_eq_true]; exact hs) h
  · simp only [RM_all R1, Option.some.injEq, exists_eq_left', true_and, and_true, isIn_eq, bI_0, Classical.not_not, bo_0, bo_1, bI_bo, up2_s, up2_f, ne_eq, Nat.reduceEqDiff, not_false_eq_true] at hd
    rw [iT_T hd] at h
    refine r_settles R1 B1 (by simp only [up2_f, ne_eq, Nat.reduceEqDiff, not_false_eq_true]; exact hn) hW (fun S2 R2 => ?_)
    have hn2 : (z_set (up2 σ 0 0 (σ 0 0 + 1), μ) nW nW).1 23 0 = nI nW := by rw [z_set_f _ _ _ (by decide) (by decide)]; simp only [up2_f, ne_eq, Nat.reduceEqDiff, not_false_eq_true]; exact hn
    have hs2 : (z_set (up2 σ 0 0 (σ 0 0 + 1), μ) nW nW).1 1 0 = nI nS := by rw [z_set_f _ _ _ (by decide) (by decide)]; simp only [up2_f, ne_eq, Nat.reduceEqDiff, not_false_eq_true]; exact hs
    exact r_fines R2 (z_set_B B1 nW nW) hn2 hW (fun S3 R3 => ends (z_late (up2 σ 0 0 (σ 0 0 + 1), μ) nW) S3 R3 (z_set_B B1 nW nW) hn2 hs2 h)
theorem z_ends_f (x : AS) (nS nW : Nat) {f : Nat} (i : Nat) (h0 : f ≠ 10) (h1 : f ≠ 11) : (z_ends x nS nW).1 f i = x.1 f i := by
  show z_w2 (z_w1 (z_w0 x.1 nS) nW nS) nW nS f i = _
  rw [z_w2_f _ _ _ h0, z_w1_f _ _ _ h1, z_w0_f _ _ h1]
theorem z_hour_f (x : AS) (nS nW : Nat) {f : Nat} (i : Nat) (h0 : f ≠ 10) (h1 : f ≠ 11) (h2 : f ≠ 0) (h3 : f ≠ 33) (h4 : f ≠ 34) : (z_hour x nS nW).1 f i = x.1 f i := by
  unfold z_hour
  rw [z_ends_f _ _ _ _ h0 h1]
  refine iT_ind (fun y : AS => y.1 f i = x.1 f i) (fun _ => ?_) (fun _ => ?_)
  · show (z_set (up2 x.1 0 0 (x.1 0 0 + 1), x.2) nW nW).1 f i = _
    rw [z_set_f _ _ _ h3 h4]
    show up2 x.1 0 0 (x.1 0 0 + 1) f i = _
    rw [up2_f _ _ _ _ h2]
  · show up2 x.1 0 0 (x.1 0 0 + 1) f i = _
    rw [up2_f _ _ _ _ h2]
theorem z_hour_0 (x : AS) (nS nW : Nat) (i : Nat) : (z_hour x nS nW).1 0 i = up2 x.1 0 0 (x.1 0 0 + 1) 0 i := by
  unfold z_hour
  rw [z_ends_f _ _ _ _ (by decide) (by decide)]
  refine iT_ind (fun y : AS => y.1 0 i = up2 x.1 0 0 (x.1 0 0 + 1) 0 i) (fun _ => ?_) (fun _ => rfl)
  show (z_set (up2 x.1 0 0 (x.1 0 0 + 1), x.2) nW nW).1 0 i = _
  rw [z_set_f _ _ _ (by decide) (by decide)]
theorem z_ends_B {x : AS} (B : IB x.1) (nS nW : Nat) : IB (z_ends x nS nW).1 := z_w2_B (z_w1_B (z_w0_B B nS) nW nS) nW nS
theorem z_hour_B {x : AS} (B : IB x.1) (hh : (x.1 0 0).toInt < 9999) (nS nW : Nat) : IB (z_hour x nS nW).1 := by
  have hb0 : (0 : Int) ≤ (x.1 0 0).toInt := (B 0 0).1
  have B1 : IB (up2 x.1 0 0 (x.1 0 0 + 1)) := by
    refine IB_up B 0 0 ?_ ?_
    · show (0 : Int) ≤ _
      rw [tadd, show (1 : Int32).toInt = 1 from by decide]; omega
    · show _ ≤ (9999 : Int)
      rw [tadd, show (1 : Int32).toInt = 1 from by decide]; omega
  unfold z_hour
  refine z_ends_B (x := iT _ _ _) ?_ nS nW
  refine iT_ind (fun y : AS => IB y.1) (fun _ => ?_) (fun _ => B1)
  show IB (z_set (up2 x.1 0 0 (x.1 0 0 + 1), x.2) nW nW).1
  exact z_set_B (x := (up2 x.1 0 0 (x.1 0 0 + 1), x.2)) B1 nW nW
noncomputable def z_run (x : AS) (nS nW : Nat) : Nat → AS
  | 0 => x
  | n + 1 => z_hour (z_run x nS nW n) nS nW
theorem z_run_f (x : AS) (nS nW : Nat) {f : Nat} (i : Nat) (h0 : f ≠ 10) (h1 : f ≠ 11) (h2 : f ≠ 0) (h3 : f ≠ 33) (h4 : f ≠ 34) : ∀ n, (z_run x nS nW n).1 f i = x.1 f i
  | 0 => rfl
  | n + 1 => by rw [z_run, z_hour_f _ _ _ _ h0 h1 h2 h3 h4, z_run_f x nS nW i h0 h1 h2 h3 h4 n]
theorem z_run_0 (x : AS) (nS nW : Nat) : ∀ n, (z_run x nS nW n).1 0 0 = x.1 0 0 + nI n
  | 0 => (q_add0 _).symm
  | n + 1 => by
    rw [z_run, z_hour_0, up2_s, z_run_0 x nS nW n, ← qn_s]
    rw [ieq]; simp only [tadd]; omega
noncomputable def q_pass (σ : SG) (x : Int32) : Int32 := iT (¬ (1 ≤ x ∧ x ≤ 200)) 1 (iT (¬ σ 0 0 + x ≤ 9999) 2 0)
noncomputable def u_pass (σ : SG) (μ : MU) (x : Int32) (nS nW : Nat) : AS := z_run (up2 σ 49 0 0, μ) nS nW x.toNatClampNeg
theorem z_run_B {x : AS} (B : IB x.1) (nS nW : Nat) {N : Nat} (hN : (x.1 0 0).toInt + N ≤ 9999) : ∀ n, n ≤ N → IB (z_run x nS nW n).1
  | 0, _ => B
  | n + 1, hn => by
    have hb0 : (0 : Int) ≤ (x.1 0 0).toInt := (B 0 0).1
    refine z_hour_B (x := z_run x nS nW n) (z_run_B B nS nW hN n (by omega)) ?_ nS nW
    rw [z_run_0, tadd, nI_toInt (by omega)]
    omega
theorem r_pass (R : RM A m S σ μ) (B : IB σ) {nW nS : Nat} (hn : σ 23 0 = nI nW) (hW : nW ≤ 24) (hs : σ 1 0 = nI nS) (hS : nS ≤ 6) (x : Int32) (post : Int32 → PT → Prop)
    (hx : ∀ S', ¬ q_pass σ x = 0 → RM A m S' (up2 σ 49 0 (q_pass σ x)) μ → post 0 S')
    (h : ∀ S', q_pass σ x = 0 → RM A m S' (u_pass σ μ x nS nW).1 (u_pass σ μ x nS nW).2 → post (σ 0 0 + x) S') : w_X9_pass m x S post := by
  have e : w_X9_pass m x S post = w_X9_pass_b35 m x post S (some m) (q_pass σ x) := by
    unfold w_X9_pass q_pass
    simp only [RM_all R, Option.some.injEq, exists_eq_left', true_and, and_true, isIn_eq, bI_0, Classical.not_not, bo_0, bo_1, bI_bo, forall_eq, br2, br2']
    ((try simp only [iT]) <;> (repeat' split) <;> first | rfl | grind | (exfalso; simp_all; done) | (simp_all; done) | (simp only [ile, ilt] at *; (repeat' split) <;> first | rfl | (exfalso; omega) | (exfalso; simp_all; done)))
  rw [e]
  generalize hq : q_pass σ x = t at *
  unfold w_X9_pass_b35
  simp only [RM_all R, Option.some.injEq, exists_eq_left', true_and, and_true, isIn_eq, bI_0, Classical.not_not, bo_0, bo_1, bI_bo, up2_s, up2_f, ne_eq, Nat.reduceEqDiff, not_false_eq_true]
  refine r_goes R _ (fun S1 R1 => ⟨fun ht => ?_, fun ht => hx S1 (by rw [bI_0] at ht; exact ht) R1⟩)
  rw [bI_0, Classical.not_not] at ht
  subst ht
  obtain ⟨h1, hq2⟩ := q1 (by decide) hq
  obtain ⟨h2, -⟩ := q1 (by decide) hq2
  rw [Classical.not_not] at h1 h2
  have hb0 : (0 : Int) ≤ (σ 0 0).toInt := (B 0 0).1
  have hb1 : (σ 0 0).toInt ≤ (9999 : Int) := (B 0 0).2
  have a1 := h1.1
  have a2 := h1.2
  rw [ile, show (1 : Int32).toInt = 1 from by decide] at a1
  rw [ile, show (200 : Int32).toInt = 200 from by decide] at a2
  rw [ile, tadd, show (9999 : Int32).toInt = 9999 from by decide] at h2
  obtain ⟨N, hN, rfl, hN2⟩ := ex_nI (x := x) (n := 201) (by rw [ilt, I0]; omega) (by omega)
  rw [nI_toInt hN2] at h2
  have g2 : (nI N).toNatClampNeg = N := qn_nat hN2
  unfold u_pass at h
  rw [g2] at h
  have B1 : IB (up2 σ 49 0 0) := IB_49 B 0
  have hN3 : ((up2 σ 49 0 0 : SG) 0 0).toInt + N ≤ 9999 := by simp only [up2_f, ne_eq, Nat.reduceEqDiff, not_false_eq_true]; omega
  refine loop_st (N := N) (fun i S => RM A m S (z_run (up2 σ 49 0 0, μ) nS nW i).1 (z_run (up2 σ 49 0 0, μ) nS nW i).2) (fun n S v => w_X9_pass_l45 m (nI N) post n S v) (fun n S R => ?_) (fun n i S hi R ih => ?_) S1 R1
  · unfold w_X9_pass_l45
    have c : nI N ≤ nI N := by rw [qn_le (by omega) (by omega)]; omega
    have e0 := z_run_0 (up2 σ 49 0 0, μ) nS nW N
    simp only [up2_f, ne_eq, Nat.reduceEqDiff, not_false_eq_true] at e0
    simp only [RM_all R, Option.some.injEq, exists_eq_left', true_and, and_true, isIn_eq, bI_0, Classical.not_not, bo_0, bo_1, bI_bo, up2_s, up2_f, ne_eq, Nat.reduceEqDiff, not_false_eq_true, c, e0]
    exact ⟨fun _ => h S rfl R, fun n => absurd trivial n⟩
  · unfold w_X9_pass_l45
    have c : ¬ nI N ≤ nI i := by rw [qn_le (by omega) (by omega)]; omega
    have hn2 : (z_run (up2 σ 49 0 0, μ) nS nW i).1 23 0 = nI nW := by rw [z_run_f _ _ _ _ (by decide) (by decide) (by decide) (by decide) (by decide)]; simp only [up2_f, ne_eq, Nat.reduceEqDiff, not_false_eq_true]; exact hn
    have hs2 : (z_run (up2 σ 49 0 0, μ) nS nW i).1 1 0 = nI nS := by rw [z_run_f _ _ _ _ (by decide) (by decide) (by decide) (by decide) (by decide)]; simp only [up2_f, ne_eq, Nat.reduceEqDiff, not_false_eq_true]; exact hs
    have e0 := z_run_0 (up2 σ 49 0 0, μ) nS nW i
    simp only [up2_f, ne_eq, Nat.reduceEqDiff, not_false_eq_true] at e0
    simp only [RM_all R, Option.some.injEq, exists_eq_left', true_and, and_true, isIn_eq, bI_0, Classical.not_not, bo_0, bo_1, bI_bo, up2_s, up2_f, ne_eq, Nat.reduceEqDiff, not_false_eq_true, c, qn_s]
    refine ⟨fun n => n.elim, fun _ => r_goesBy R (z_run_B B1 nS nW hN3 i (by omega)) ?_ hn2 hW hs2 hS (fun S' R' => ih S' R')⟩
    rw [e0, tadd, nI_toInt (by omega)]
    omega
end Q
