/-! hours that go by: the run -/
section PSR
variable {e0 m0 x9 o m s w : Nat} {S M : PT} {σ : SG} {μ μ0 : MU} {n : Nat → Nat} {h t C cap : Nat}
theorem hour_10 {x : AS} (b : IB x.1) (hh : (x.1 0 0).toInt < 9999) {nS : Nat} (hS : nS ≤ 6) (dv : ∀ j, j < nS → x.1 5 j = -1 ∨ (x.1 5 j).toNatClampNeg < j) (nW s : Nat) (h1 : 0 ≤ (x.1 10 s).toInt) (h2 : (x.1 10 s).toInt ≤ 100000000) : (s < nS → 0 ≤ ((z_hour x nS nW).1 10 s).toInt ∧ ((z_hour x nS nW).1 10 s).toInt ≤ (x.1 10 s).toInt + ((x.1 4 s).toNatClampNeg + ar x.1 s nS : Nat)) ∧ (nS ≤ s → (z_hour x nS nW).1 10 s = x.1 10 s) := by
  have hb0 : (0 : Int) ≤ (x.1 0 0).toInt := (b 0 0).1
  have B1 : IB (up2 x.1 0 0 (x.1 0 0 + 1)) := by
    refine IB_up b 0 0 ?_ ?_
    · show (0 : Int) ≤ _
      rw [tadd, tl_1]; omega
    · show _ ≤ (9999 : Int)
      rw [tadd, tl_1]; omega
  have u00 : ∀ f j, f ≠ 0 → up2 x.1 0 0 (x.1 0 0 + 1) f j = x.1 f j := fun f j hf => up2_f _ _ _ _ hf
  have key : ∀ y : AS, IB y.1 → (∀ j, y.1 4 j = x.1 4 j) → (∀ j, y.1 5 j = x.1 5 j) → y.1 10 s = x.1 10 s → (s < nS → 0 ≤ ((z_ends y nS nW).1 10 s).toInt ∧ ((z_ends y nS nW).1 10 s).toInt ≤ (x.1 10 s).toInt + ((x.1 4 s).toNatClampNeg + ar x.1 s nS : Nat)) ∧ (nS ≤ s → (z_ends y nS nW).1 10 s = x.1 10 s) := fun y yb y4 y5 y10 => by
    have wq := waits_10 yb hS (fun j hj => by rw [y5]; exact dv j hj) nW s (by rw [y10]; exact h1) (by rw [y10]; exact h2)
    rw [y10, y4, ar_c y4 y5] at wq
    exact wq
  unfold z_hour
  refine key _ ?_ ?_ ?_ ?_
  · exact iT_ind (fun y : AS => IB y.1) (fun _ => z_set_B (x := (up2 x.1 0 0 (x.1 0 0 + 1), x.2)) B1 nW nW) (fun _ => B1)
  · intro j
    refine iT_ind (fun y : AS => y.1 4 j = x.1 4 j) (fun _ => ?_) (fun _ => u00 4 j (by decide))
    exact (z_set_f _ _ _ (by decide) (by decide) _).trans (u00 4 j (by decide))
  · intro j
    refine iT_ind (fun y : AS => y.1 5 j = x.1 5 j) (fun _ => ?_) (fun _ => u00 5 j (by decide))
    exact (z_set_f _ _ _ (by decide) (by decide) _).trans (u00 5 j (by decide))
  · refine iT_ind (fun y : AS => y.1 10 s = x.1 10 s) (fun _ => ?_) (fun _ => u00 10 s (by decide))
    exact (z_set_f _ _ _ (by decide) (by decide) _).trans (u00 10 s (by decide))
theorem ar_c' {σ' : SG} (h4 : σ' 4 = σ 4) (h5 : σ' 5 = σ 5) : ar σ' = ar σ := by
  funext k j
  exact ar_c (fun i => by rw [h4]) (fun i => by rw [h5]) k j
theorem run_ok (b : IB σ) {nS nW N Bd : Nat} (hS : nS ≤ 6) (hW : nW ≤ 24) (dv : ∀ j, j < nS → σ 5 j = -1 ∨ (σ 5 j).toNatClampNeg < j) (h10 : ∀ s, s < 6 → 0 ≤ (σ 10 s).toInt ∧ (σ 10 s).toInt ≤ 40000000) (e0 : σ 0 0 = nI h) (hN : h + N ≤ 9999) (hN2 : N ≤ 200) (H : PM μ0 μ Bd) (hB : Bd ≤ 10000000) : ∀ i, i ≤ N → IB (z_run (σ, μ) nS nW i).1 ∧ (∀ k, (z_run (σ, μ) nS nW i).1 33 k = 3 ↔ σ 33 k = 3) ∧ (∀ s, s < 6 → s < nS → 0 ≤ ((z_run (σ, μ) nS nW i).1 10 s).toInt ∧ ((z_run (σ, μ) nS nW i).1 10 s).toInt ≤ (σ 10 s).toInt + (i * ((σ 4 s).toNatClampNeg + ar σ s nS) : Nat)) ∧ (∀ s, s < 6 → nS ≤ s → (z_run (σ, μ) nS nW i).1 10 s = σ 10 s) ∧ PM μ0 (z_run (σ, μ) nS nW i).2 (Bd + 96 * i)
  | 0, _ => ⟨b, fun _ => Iff.rfl, fun s h6 _ => by
      have a := h10 s h6
      show 0 ≤ (σ 10 s).toInt ∧ (σ 10 s).toInt ≤ _
      rw [Nat.zero_mul]; omega, fun _ _ _ => rfl, H⟩
  | i + 1, hi => by
    obtain ⟨ib, i33, iq, iq2, ip⟩ := run_ok b hS hW dv h10 e0 hN hN2 H hB i (by omega)
    have hz0 : ((z_run (σ, μ) nS nW i).1 0 0).toInt < 9999 := by
      rw [z_run_0]
      show (σ 0 0 + nI i).toInt < _
      rw [e0, qn_add, nI_toInt (by omega)]; omega
    have f4 : ∀ j, (z_run (σ, μ) nS nW i).1 4 j = σ 4 j := fun j => z_run_f (σ, μ) nS nW j (by decide) (by decide) (by decide) (by decide) (by decide) i
    have f5 : ∀ j, (z_run (σ, μ) nS nW i).1 5 j = σ 5 j := fun j => z_run_f (σ, μ) nS nW j (by decide) (by decide) (by decide) (by decide) (by decide) i
    show IB (z_hour (z_run (σ, μ) nS nW i) nS nW).1 ∧ (∀ k, (z_hour (z_run (σ, μ) nS nW i) nS nW).1 33 k = 3 ↔ σ 33 k = 3) ∧ (∀ s, s < 6 → s < nS → 0 ≤ ((z_hour (z_run (σ, μ) nS nW i) nS nW).1 10 s).toInt ∧ ((z_hour (z_run (σ, μ) nS nW i) nS nW).1 10 s).toInt ≤ (σ 10 s).toInt + ((i + 1) * ((σ 4 s).toNatClampNeg + ar σ s nS) : Nat)) ∧ (∀ s, s < 6 → nS ≤ s → (z_hour (z_run (σ, μ) nS nW i) nS nW).1 10 s = σ 10 s) ∧ PM μ0 (z_hour (z_run (σ, μ) nS nW i) nS nW).2 (Bd + 96 * (i + 1))
    generalize z_run (σ, μ) nS nW i = y at *
    refine ⟨z_hour_B ib hz0 nS nW, fun k => (hour_33 y nS nW k).trans (i33 k), fun s h6 hs => ?_, fun s h6 hs => ?_, PM_up (by omega) (PM_hour ib hz0 ip (by omega) nS hW)⟩
    · have q := iq s h6 hs
      have a := h10 s h6
      have al := ar_le b s nS
      have v4 := (v4b b s).2
      have hm : i * ((σ 4 s).toNatClampNeg + ar σ s nS) ≤ 200 * 4000 := Nat.mul_le_mul (by omega) (by omega)
      have hq := (hour_10 ib hz0 hS (fun j hj => by rw [f5]; exact dv j hj) nW s q.1 (by omega)).1 hs
      rw [f4, ar_c f4 f5] at hq
      rw [Nat.add_mul, Nat.one_mul]
      generalize i * ((σ 4 s).toNatClampNeg + ar σ s nS) = z at *
      omega
    · have a := h10 s h6
      have q := iq2 s h6 hs
      rw [(hour_10 ib hz0 hS (fun j hj => by rw [f5]; exact dv j hj) nW s (by rw [q]; exact a.1) (by rw [q]; omega)).2 hs, q]
theorem pass_all (F : SF σ n h) (I : LI σ μ t) (ht : t ≤ 140) {N : Nat} (hN1 : 1 ≤ N) (hN : N ≤ 60) : q_pass σ (nI N) = 0 ∧ LI (u_pass σ μ (nI N) (n 5) (n 8)).1 (u_pass σ μ (nI N) (n 5) (n 8)).2 (t + 1) ∧ (μ 5).toInt ≤ ((u_pass σ μ (nI N) (n 5) (n 8)).2 5).toInt ∧ (u_pass σ μ (nI N) (n 5) (n 8)).1 0 0 = nI (h + N) ∧ (∀ f, la f → f ≠ 0 → (u_pass σ μ (nI N) (n 5) (n 8)).1 f = σ f) ∧ ∀ s, s < n 5 → 0 ≤ ((u_pass σ μ (nI N) (n 5) (n 8)).1 10 s).toInt ∧ ((u_pass σ μ (nI N) (n 5) (n 8)).1 10 s).toInt ≤ (σ 10 s).toInt + (N * ((σ 4 s).toNatClampNeg + ar σ s (n 5)) : Nat) := by
  obtain ⟨I1, I2, I4, I5, I7, I8, I9⟩ := I
  have h5 : n 5 ≤ 6 := F.1.2.1
  have h8 : n 8 ≤ 24 := F.1.2.2.2.2.2.1
  have e0 := F.2.1
  have th : (σ 0 0).toInt = (h : Int) := by rw [e0, nI_toInt (by have := F.2.2.1; omega)]
  have qh : (σ 0 0).toNatClampNeg = h := by rw [e0]; exact qn_nat (by have := F.2.2.1; omega)
  have h84 : h ≤ 8400 := by omega
  have ib := F.2.2.2.1
  rw [qh] at I8
  have b49 : IB (up2 σ 49 0 0) := IB_up ib 49 0 (by decide) (by decide)
  have f49 : ∀ f, f ≠ 49 → up2 σ 49 0 0 f = σ f := fun f hf => up2_g hf 0 0
  have R := run_ok (μ0 := μ) (h := h) (N := N) b49 h5 h8 (fun j hj => by rw [f49 5 (by decide)]; exact (F.2.2.2.2.1.1 j hj).2) (fun s hs => by rw [f49 10 (by decide)]; have := I7 s hs; omega) (by rw [f49 0 (by decide)]; exact e0) (by omega) (by omega) ⟨I8, Int.le_refl _⟩ (by omega) N (Nat.le_refl _)
  rw [ar_c' (f49 4 (by decide)) (f49 5 (by decide)), f49 10 (by decide), f49 4 (by decide), f49 33 (by decide)] at R
  have qN : (nI N).toNatClampNeg = N := qn_nat (by omega)
  have Z0 := z_run_0 (up2 σ 49 0 0, μ) (n 5) (n 8) N
  have Zf : ∀ f, f ≠ 10 → f ≠ 11 → f ≠ 0 → f ≠ 33 → f ≠ 34 → f ≠ 49 → (z_run (up2 σ 49 0 0, μ) (n 5) (n 8) N).1 f = σ f := fun f g1 g2 g3 g4 g5 g6 => by
    funext i
    rw [z_run_f (up2 σ 49 0 0, μ) (n 5) (n 8) i g1 g2 g3 g4 g5 N]
    exact up2_f _ _ _ _ g6
  have Z0' : (z_run (up2 σ 49 0 0, μ) (n 5) (n 8) N).1 0 0 = nI (h + N) := by
    rw [Z0]
    show up2 σ 49 0 0 0 0 + nI N = _
    rw [up2_f _ _ _ _ (by decide), e0, qn_add]
  unfold u_pass
  rw [qN]
  generalize z_run (up2 σ 49 0 0, μ) (n 5) (n 8) N = y at *
  obtain ⟨rb, r33, rq, rq2, rp⟩ := R
  refine ⟨?_, ?_, rp.2, Z0', fun f hf hf0 => ?_, fun s hs => rq s (by omega) hs⟩
  · unfold q_pass
    rw [iT_F, iT_F]
    · intro z
      refine z ?_
      rw [e0, qn_add, ile, nI_toInt (by omega), show (9999 : Int32).toInt = 9999 from by decide]; omega
    · intro z
      refine z ⟨?_, ?_⟩
      · rw [ile, nI_toInt (by omega), tl_1]; omega
      · rw [ile, nI_toInt (by omega), tl_200]; omega
  · have g : ∀ f, (f = 13 ∨ f = 25 ∨ f = 26 ∨ f = 27 ∨ f = 31 ∨ f = 35 ∨ f = 36 ∨ f = 37 ∨ f = 40 ∨ f = 41 ∨ f = 42) → y.1 f = σ f := fun f hf => Zf f (by omega) (by omega) (by omega) (by omega) (by omega) (by omega)
    unfold LI
    rw [g 13 (by omega), g 25 (by omega), g 26 (by omega), g 27 (by omega), g 31 (by omega), g 35 (by omega), g 36 (by omega), g 37 (by omega), g 40 (by omega), g 41 (by omega), g 42 (by omega), Z0', qn_nat (show h + N < 2147483648 by omega), nI_toInt (show h + N < 2147483648 by omega)]
    refine ⟨fun q k hq hk e => ?_, fun k hk e => I2 k hk (fun z => e ((r33 k).mpr z)), I4, fun k hk => ?_, fun s hs => ?_, LM_up (by omega) rp.1, by omega⟩
    · have a := I1 q k hq hk e
      exact ⟨(r33 k).mpr a.1, a.2⟩
    · have := I5 k hk
      omega
    · have a := I7 s hs
      by_cases z : s < n 5
      · have b := rq s hs z
        have al := ar_le ib s (n 5)
        have v4 := (v4b ib s).2
        have hm : N * ((σ 4 s).toNatClampNeg + ar σ s (n 5)) ≤ N * 4000 := Nat.mul_le_mul (Nat.le_refl _) (by omega)
        omega
      · rw [rq2 s hs (by omega)]
        omega
  · unfold la at hf
    exact Zf f (by omega) (by omega) hf0 (by omega) (by omega) (by omega)
end PSR
