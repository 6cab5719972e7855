/-! queues, hours -/
section Q
variable {A : Nat → Nat} {m : Nat} {S : PT} {σ : SG} {μ : MU}
theorem z_ends_f (x : AS) (nS nW : Nat) {f : Nat} (i : Nat) (h0 : f ≠ 10) (h1 : f ≠ 11) : (z_ends x nS nW).1 f i = x.1 f i := by
  show z_w2 (z_w1 (z_w0 x.1 nS) nW nS) nW nS f i = _
  rw [z_w2_f _ _ _ h0, z_w1_f _ _ _ h1, z_w0_f _ _ h1]
theorem z_hour_f (x : AS) (nS nW : Nat) {f : Nat} (i : Nat) (h0 : f ≠ 10) (h1 : f ≠ 11) (h2 : f ≠ 0) (h3 : f ≠ 33) (h4 : f ≠ 34) : (z_hour x nS nW).1 f i = x.1 f i := by
  unfold z_hour
  rw [z_ends_f _ _ _ _ h0 h1]
  refine iT_ind (fun y : AS => y.1 f i = x.1 f i) (fun _ => ?_) (fun _ => ?_)
  · show (z_set (up2 x.1 0 0 (x.1 0 0 + 1), x.2) nW nW).1 f i = _
    rw [z_set_f _ _ _ h3 h4]
    show up2 x.1 0 0 (x.1 0 0 + 1) f i = _
    rw [up2_f _ _ _ _ h2]
  · show up2 x.1 0 0 (x.1 0 0 + 1) f i = _
    rw [up2_f _ _ _ _ h2]
theorem z_hour_0 (x : AS) (nS nW : Nat) (i : Nat) : (z_hour x nS nW).1 0 i = up2 x.1 0 0 (x.1 0 0 + 1) 0 i := by
  unfold z_hour
  rw [z_ends_f _ _ _ _ (by decide) (by decide)]
  refine iT_ind (fun y : AS => y.1 0 i = up2 x.1 0 0 (x.1 0 0 + 1) 0 i) (fun _ => ?_) (fun _ => rfl)
  show (z_set (up2 x.1 0 0 (x.1 0 0 + 1), x.2) nW nW).1 0 i = _
  rw [z_set_f _ _ _ (by decide) (by decide)]
theorem z_ends_B {x : AS} (B : IB x.1) (nS nW : Nat) : IB (z_ends x nS nW).1 := z_w2_B (z_w1_B (z_w0_B B nS) nW nS) nW nS
theorem z_hour_B {x : AS} (B : IB x.1) (hh : (x.1 0 0).toInt < 9999) (nS nW : Nat) : IB (z_hour x nS nW).1 := by
  have hb0 : (0 : Int) ≤ (x.1 0 0).toInt := (B 0 0).1
  have B1 : IB (up2 x.1 0 0 (x.1 0 0 + 1)) := by
    refine IB_up B 0 0 ?_ ?_
    · show (0 : Int) ≤ _
      rw [tadd, show (1 : Int32).toInt = 1 from by decide]; omega
    · show _ ≤ (9999 : Int)
      rw [tadd, show (1 : Int32).toInt = 1 from by decide]; omega
  unfold z_hour
  refine z_ends_B (x := iT _ _ _) ?_ nS nW
  refine iT_ind (fun y : AS => IB y.1) (fun _ => ?_) (fun _ => B1)
  show IB (z_set (up2 x.1 0 0 (x.1 0 0 + 1), x.2) nW nW).1
  exact z_set_B (x := (up2 x.1 0 0 (x.1 0 0 + 1), x.2)) B1 nW nW
noncomputable def z_run (x : AS) (nS nW : Nat) : Nat → AS
  | 0 => x
  | n + 1 => z_hour (z_run x nS nW n) nS nW
theorem z_run_f (x : AS) (nS nW : Nat) {f : Nat} (i : Nat) (h0 : f ≠ 10) (h1 : f ≠ 11) (h2 : f ≠ 0) (h3 : f ≠ 33) (h4 : f ≠ 34) : ∀ n, (z_run x nS nW n).1 f i = x.1 f i
  | 0 => rfl
  | n + 1 => by rw [z_run, z_hour_f _ _ _ _ h0 h1 h2 h3 h4, z_run_f x nS nW i h0 h1 h2 h3 h4 n]
theorem z_run_0 (x : AS) (nS nW : Nat) : ∀ n, (z_run x nS nW n).1 0 0 = x.1 0 0 + nI n
  | 0 => (q_add0 _).symm
  | n + 1 => by
    rw [z_run, z_hour_0, up2_s, z_run_0 x nS nW n, ← qn_s]
    rw [ieq]; simp only [tadd]; omega
noncomputable def q_pass (σ : SG) (x : Int32) : Int32 := iT (¬ (1 ≤ x ∧ x ≤ 200)) 1 (iT (¬ σ 0 0 + x ≤ 9999) 2 0)
noncomputable def u_pass (σ : SG) (μ : MU) (x : Int32) (nS nW : Nat) : AS := z_run (up2 σ 49 0 0, μ) nS nW x.toNatClampNeg
theorem z_run_B {x : AS} (B : IB x.1) (nS nW : Nat) {N : Nat} (hN : (x.1 0 0).toInt + N ≤ 9999) : ∀ n, n ≤ N → IB (z_run x nS nW n).1
  | 0, _ => B
  | n + 1, hn => by
    have hb0 : (0 : Int) ≤ (x.1 0 0).toInt := (B 0 0).1
    refine z_hour_B (x := z_run x nS nW n) (z_run_B B nS nW hN n (by omega)) ?_ nS nW
    rw [z_run_0, tadd, nI_toInt (by omega)]
    omega
end Q
