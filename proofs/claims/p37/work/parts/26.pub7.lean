/-! the rest of what is asked -/
theorem iT_tt {α : Sort _} {a b : α} : iT True a b = a := iT_T trivial
theorem iT_ff {α : Sort _} {a b : α} : iT False a b = b := iT_F (fun n => n)
section Q
variable {A : Nat → Nat} {m : Nat} {S : PT} {σ : SG} {μ : MU}
noncomputable def q_wk (σ : SG) (x : Int32) : Int32 := iT (¬ (0 ≤ x ∧ x ≤ σ 23 0 - 1)) 1 0
theorem z_met_49 (σ : SG) (t : Int32) (j n : Nat) : z_met (up2 σ 49 0 t) j n = z_met σ j n := by
  simp only [z_met, z_on, z_meet, z_may, z_has, z_end, z_last, z_today, z_near, up2_f, ne_eq, Nat.reduceEqDiff, not_false_eq_true]
theorem z_bars_49 (σ : SG) (t : Int32) (j n : Nat) : z_bars (up2 σ 49 0 t) j n = z_bars σ j n := by
  simp only [z_bars, z_met_49, z_has, z_end, z_last, z_today, up2_f, ne_eq, Nat.reduceEqDiff, not_false_eq_true]
theorem z_meet_49 (σ : SG) (t : Int32) (j k : Nat) : z_meet (up2 σ 49 0 t) j k = z_meet σ j k := by
  simp only [z_on, z_meet, z_may, z_has, z_end, z_last, z_today, z_near, up2_f, ne_eq, Nat.reduceEqDiff, not_false_eq_true]
noncomputable def q_meets (σ : SG) (x f : Int32) : Int32 := iT (¬ (0 ≤ x ∧ x ≤ σ 23 0 - 1)) 1 (iT (¬ 0 ≤ f) 2 0)
noncomputable def z_meets (σ : SG) (k : Nat) (f : Int32) (nW : Nat) : Int32 := z_first (z_meet σ k) (nW - f.toNatClampNeg) f.toNatClampNeg
noncomputable def q_of (σ : SG) (x w : Int32) : Int32 := iT (¬ (0 ≤ x ∧ x ≤ σ 23 0 - 1)) 1 (iT (¬ (0 ≤ w ∧ w ≤ 7)) 2 0)
noncomputable def z_what (σ : SG) (k : Nat) (w : Int32) : Int32 :=
  iT (w = 0) (σ 33 k) (iT (w = 1) (z_last σ k) (iT (w = 2) (σ 34 k) (iT (w = 3) (σ 35 k) (iT (w = 4) (σ 36 k) (iT (w = 5) (nI (z_opens σ (nI k))) (iT (w = 6) (iT (σ 37 k = 0) 0 1) (iT (σ 38 k = 0) 0 1)))))))
theorem z_what_0 (σ : SG) (k : Nat) : z_what σ k (nI 0) = σ 33 k := by
  unfold z_what
  rw [iT_T (show nI 0 = 0 from rfl)]
theorem z_what_1 (σ : SG) (k : Nat) : z_what σ k (nI 1) = z_last σ k := by
  unfold z_what
  rw [iT_F (show ¬ nI 1 = 0 by decide), iT_T (show nI 1 = 1 from rfl)]
theorem z_what_2 (σ : SG) (k : Nat) : z_what σ k (nI 2) = σ 34 k := by
  unfold z_what
  rw [iT_F (show ¬ nI 2 = 0 by decide), iT_F (show ¬ nI 2 = 1 by decide), iT_T (show nI 2 = 2 from rfl)]
theorem z_what_3 (σ : SG) (k : Nat) : z_what σ k (nI 3) = σ 35 k := by
  unfold z_what
  rw [iT_F (show ¬ nI 3 = 0 by decide), iT_F (show ¬ nI 3 = 1 by decide), iT_F (show ¬ nI 3 = 2 by decide), iT_T (show nI 3 = 3 from rfl)]
theorem z_what_4 (σ : SG) (k : Nat) : z_what σ k (nI 4) = σ 36 k := by
  unfold z_what
  rw [iT_F (show ¬ nI 4 = 0 by decide), iT_F (show ¬ nI 4 = 1 by decide), iT_F (show ¬ nI 4 = 2 by decide), iT_F (show ¬ nI 4 = 3 by decide), iT_T (show nI 4 = 4 from rfl)]
theorem z_what_5 (σ : SG) (k : Nat) : z_what σ k (nI 5) = nI (z_opens σ (nI k)) := by
  unfold z_what
  rw [iT_F (show ¬ nI 5 = 0 by decide), iT_F (show ¬ nI 5 = 1 by decide), iT_F (show ¬ nI 5 = 2 by decide), iT_F (show ¬ nI 5 = 3 by decide), iT_F (show ¬ nI 5 = 4 by decide), iT_T (show nI 5 = 5 from rfl)]
theorem z_what_6 (σ : SG) (k : Nat) : z_what σ k (nI 6) = iT (σ 37 k = 0) 0 1 := by
  unfold z_what
  rw [iT_F (show ¬ nI 6 = 0 by decide), iT_F (show ¬ nI 6 = 1 by decide), iT_F (show ¬ nI 6 = 2 by decide), iT_F (show ¬ nI 6 = 3 by decide), iT_F (show ¬ nI 6 = 4 by decide), iT_F (show ¬ nI 6 = 5 by decide), iT_T (show nI 6 = 6 from rfl)]
theorem z_what_7 (σ : SG) (k : Nat) : z_what σ k (nI 7) = iT (σ 38 k = 0) 0 1 := by
  unfold z_what
  rw [iT_F (show ¬ nI 7 = 0 by decide), iT_F (show ¬ nI 7 = 1 by decide), iT_F (show ¬ nI 7 = 2 by decide), iT_F (show ¬ nI 7 = 3 by decide), iT_F (show ¬ nI 7 = 4 by decide), iT_F (show ¬ nI 7 = 5 by decide), iT_F (show ¬ nI 7 = 6 by decide)]
theorem z_opens_49 (σ : SG) (t x : Int32) : z_opens (up2 σ 49 0 t) x = z_opens σ x := by
  simp only [z_opens, up2_f, ne_eq, Nat.reduceEqDiff, not_false_eq_true]
end Q
