/-! what works do: what is left of all this -/
section DNE
variable {e0 m0 x o m s w : Nat} {S M : PT} {σ σ' : SG} {μ μ' : MU} {C cap t : Nat} {n : Nat → Nat} {h : Nat}
theorem LI_wk {k : Nat} (I : LI σ μ t) (hf : ∀ f, lf f → f ≠ 33 → f ≠ 37 → σ' f = σ f) (h33 : ∀ j, j ≠ k → σ' 33 j = σ 33 j) (h37 : ∀ j, j ≠ k → σ' 37 j = σ 37 j) (hn : (∀ q, q < 240 → ¬ σ 13 q = nI k) ∨ σ' 33 k = 3) (h0 : σ' 33 k = 3 ∨ σ' 37 k = 0) : LI σ' μ t := by
  obtain ⟨I1, I2, I4, I5, I7, I8, I9⟩ := I
  have g : ∀ f, (f = 0 ∨ f = 10 ∨ f = 13 ∨ f = 25 ∨ f = 26 ∨ f = 27 ∨ f = 31 ∨ f = 35 ∨ f = 36 ∨ f = 40 ∨ f = 41 ∨ f = 42) → σ' f = σ f := fun f hf9 => hf f (by unfold lf; omega) (by omega) (by omega)
  unfold LI
  rw [g 0 (by omega), g 10 (by omega), g 13 (by omega), g 25 (by omega), g 26 (by omega), g 27 (by omega), g 31 (by omega), g 35 (by omega), g 36 (by omega), g 40 (by omega), g 41 (by omega), g 42 (by omega)]
  refine ⟨fun q j hq hj e => ?_, fun j hj e => ?_, I4, I5, I7, I8, I9⟩
  · have a := I1 q j hq hj e
    by_cases z : j = k
    · subst z
      rcases hn with z2 | z2
      · exact absurd e (z2 q hq)
      · exact ⟨z2, a.2⟩
    · rw [h33 j z]; exact a
  · by_cases z : j = k
    · subst z
      rcases h0 with z2 | z2
      · exact absurd z2 e
      · exact z2
    · rw [h33 j z] at e
      rw [h37 j z]; exact I2 j hj e
theorem LI_b {k : Nat} (I : LI σ μ t) (hf : ∀ f, lf f → f ≠ 31 → f ≠ 35 → f ≠ 36 → σ' f = σ f) (ho : ∀ j, j ≠ k → σ' 31 j = σ 31 j ∧ σ' 35 j = σ 35 j ∧ σ' 36 j = σ 36 j) (hb : 0 ≤ (σ' 36 k).toInt ∧ (σ' 36 k).toInt ≤ 30 * ((t + 1 : Nat) : Int) ∧ 0 ≤ (σ' 31 k).toInt ∧ (σ' 31 k).toInt ≤ 60 + 2 * ((t + 1 : Nat) : Int) ∧ 0 ≤ (σ' 35 k).toInt ∧ (σ' 35 k).toInt ≤ ((t + 1 : Nat) : Int)) : LI σ' μ (t + 1) := by
  obtain ⟨I1, I2, I4, I5, I7, I8, I9⟩ := I
  have g : ∀ f, (f = 0 ∨ f = 10 ∨ f = 13 ∨ f = 25 ∨ f = 26 ∨ f = 27 ∨ f = 33 ∨ f = 37 ∨ f = 40 ∨ f = 41 ∨ f = 42) → σ' f = σ f := fun f hf9 => hf f (by unfold lf; omega) (by omega) (by omega) (by omega)
  unfold LI
  rw [g 0 (by omega), g 10 (by omega), g 13 (by omega), g 25 (by omega), g 26 (by omega), g 27 (by omega), g 33 (by omega), g 37 (by omega), g 40 (by omega), g 41 (by omega), g 42 (by omega)]
  refine ⟨I1, I2, I4, fun j hj => ?_, I7, LM_up (by omega) I8, by omega⟩
  by_cases z : j = k
  · rw [z]; exact hb
  · obtain ⟨a, b, c⟩ := ho j z
    rw [a, b, c]
    have := I5 j hj
    omega
theorem la_grant (a : Int32) (b : Int32) : ∀ f, la f → (u_grant σ a b) f = σ f := fun f hf => by
  funext j
  unfold u_grant
  rcases hf with rfl | rfl | rfl | rfl | rfl | rfl | rfl | rfl | rfl | rfl | rfl | rfl <;> simp only [up2_f, ne_eq, Nat.reduceEqDiff, not_false_eq_true]
theorem la_refuse (a : Int32) : ∀ f, la f → (u_refuse σ a) f = σ f := fun f hf => by
  funext j
  unfold u_refuse
  rcases hf with rfl | rfl | rfl | rfl | rfl | rfl | rfl | rfl | rfl | rfl | rfl | rfl <;> simp only [up2_f, ne_eq, Nat.reduceEqDiff, not_false_eq_true]
theorem la_vary (a : Int32) (b : Int32) : ∀ f, la f → (u_vary σ a b) f = σ f := fun f hf => by
  funext j
  unfold u_vary
  rcases hf with rfl | rfl | rfl | rfl | rfl | rfl | rfl | rfl | rfl | rfl | rfl | rfl <;> simp only [up2_f, ne_eq, Nat.reduceEqDiff, not_false_eq_true]
theorem la_exempt (a : Int32) : ∀ f, la f → (u_exempt σ a) f = σ f := fun f hf => by
  funext j
  unfold u_exempt
  rcases hf with rfl | rfl | rfl | rfl | rfl | rfl | rfl | rfl | rfl | rfl | rfl | rfl <;> simp only [up2_f, ne_eq, Nat.reduceEqDiff, not_false_eq_true]
theorem la_agree (a : Int32) (b : Int32) : ∀ f, la f → (u_agree σ a b) f = σ f := fun f hf => by
  funext j
  unfold u_agree
  rcases hf with rfl | rfl | rfl | rfl | rfl | rfl | rfl | rfl | rfl | rfl | rfl | rfl <;> simp only [up2_f, ne_eq, Nat.reduceEqDiff, not_false_eq_true]
theorem la_start (a : Int32) : ∀ f, la f → (u_start σ a) f = σ f := fun f hf => by
  funext j
  unfold u_start
  rcases hf with rfl | rfl | rfl | rfl | rfl | rfl | rfl | rfl | rfl | rfl | rfl | rfl <;> simp only [up2_f, ne_eq, Nat.reduceEqDiff, not_false_eq_true]
theorem la_fill (a : Int32) (b : Int32) (c : Int32) : ∀ f, la f → (u_fill σ a b c) f = σ f := fun f hf => by
  funext j
  unfold u_fill
  rcases hf with rfl | rfl | rfl | rfl | rfl | rfl | rfl | rfl | rfl | rfl | rfl | rfl <;> simp only [up2_f, ne_eq, Nat.reduceEqDiff, not_false_eq_true]
theorem la_plate (a : Int32) : ∀ f, la f → (u_plate σ a) f = σ f := fun f hf => by
  funext j
  unfold u_plate
  rcases hf with rfl | rfl | rfl | rfl | rfl | rfl | rfl | rfl | rfl | rfl | rfl | rfl <;> simp only [up2_f, ne_eq, Nat.reduceEqDiff, not_false_eq_true]
theorem la_extend (a : Int32) : ∀ f, la f → (u_extend σ a) f = σ f := fun f hf => by
  funext j
  unfold u_extend z_two
  rcases hf with rfl | rfl | rfl | rfl | rfl | rfl | rfl | rfl | rfl | rfl | rfl | rfl <;> simp only [up2_f, ne_eq, Nat.reduceEqDiff, not_false_eq_true]
theorem la_stop (a : Int32) : ∀ f, la f → (u_stop σ a) f = σ f := fun f hf => by
  funext j
  unfold u_stop
  rcases hf with rfl | rfl | rfl | rfl | rfl | rfl | rfl | rfl | rfl | rfl | rfl | rfl <;> simp only [up2_f, ne_eq, Nat.reduceEqDiff, not_false_eq_true]
theorem lf_grant (a : Int32) (b : Int32) : ∀ f, lf f → f ≠ 33 → (u_grant σ a b) f = σ f := fun f hf h33 => by
  funext j
  unfold u_grant
  rw [up2_f _ _ _ _ (by unfold lf at hf; omega), up2_f _ _ _ _ (by unfold lf at hf; omega), up2_f _ _ _ _ (by unfold lf at hf; omega)]
theorem lf_refuse (a : Int32) : ∀ f, lf f → f ≠ 33 → (u_refuse σ a) f = σ f := fun f hf h33 => by
  funext j
  unfold u_refuse
  rw [up2_f _ _ _ _ (by unfold lf at hf; omega), up2_f _ _ _ _ (by unfold lf at hf; omega)]
theorem lf_vary (a : Int32) (b : Int32) : ∀ f, lf f → f ≠ 35 → (u_vary σ a b) f = σ f := fun f hf h35 => by
  funext j
  unfold u_vary
  rw [up2_f _ _ _ _ (by unfold lf at hf; omega), up2_f _ _ _ _ (by unfold lf at hf; omega), up2_f _ _ _ _ (by unfold lf at hf; omega)]
theorem lf_exempt (a : Int32) : ∀ f, lf f → (u_exempt σ a) f = σ f := fun f hf => by
  funext j
  unfold u_exempt
  rw [up2_f _ _ _ _ (by unfold lf at hf; omega), up2_f _ _ _ _ (by unfold lf at hf; omega)]
theorem lf_agree (a : Int32) (b : Int32) : ∀ f, lf f → (u_agree σ a b) f = σ f := fun f hf => by
  funext j
  unfold u_agree
  rw [up2_f _ _ _ _ (by unfold lf at hf; omega), up2_f _ _ _ _ (by unfold lf at hf; omega), up2_f _ _ _ _ (by unfold lf at hf; omega)]
theorem lf_start (a : Int32) : ∀ f, lf f → f ≠ 33 → (u_start σ a) f = σ f := fun f hf h33 => by
  funext j
  unfold u_start
  rw [up2_f _ _ _ _ (by unfold lf at hf; omega), up2_f _ _ _ _ (by unfold lf at hf; omega)]
theorem lf_plate (a : Int32) : ∀ f, lf f → f ≠ 37 → (u_plate σ a) f = σ f := fun f hf h37 => by
  funext j
  unfold u_plate
  rw [up2_f _ _ _ _ (by unfold lf at hf; omega), up2_f _ _ _ _ (by unfold lf at hf; omega)]
theorem lf_extend (a : Int32) : ∀ f, lf f → f ≠ 31 → f ≠ 36 → (u_extend σ a) f = σ f := fun f hf h31 h36 => by
  funext j
  unfold u_extend z_two
  rw [up2_f _ _ _ _ (by unfold lf at hf; omega), up2_f _ _ _ _ (by unfold lf at hf; omega), up2_f _ _ _ _ (by unfold lf at hf; omega)]
theorem lf_stop (a : Int32) : ∀ f, lf f → f ≠ 33 → f ≠ 37 → (u_stop σ a) f = σ f := fun f hf h33 h37 => by
  funext j
  unfold u_stop
  rw [up2_f _ _ _ _ (by unfold lf at hf; omega), up2_f _ _ _ _ (by unfold lf at hf; omega), up2_f _ _ _ _ (by unfold lf at hf; omega)]
theorem wst_in (F : SF σ n h) (k : Nat) : ∃ a : Nat, σ 33 k = nI a ∧ a ≤ 4 := by
  have := nf F.2.2.2.1 33 k rfl
  exact ⟨_, this.1, by have := this.2; rw [show bh 33 = 4 from rfl] at this; omega⟩
theorem in_c (Y : Nat) : 0 ≤ nI (Y % 4) ∧ nI (Y % 4) ≤ 3 := ⟨by rw [ile, I0, nI_toInt (by omega)]; omega, by rw [ile, nI_toInt (by omega), tl_3]; omega⟩
theorem cost_b (F : SF σ n h) (k : Nat) : 0 ≤ (z_cost σ k).toInt ∧ (z_cost σ k).toInt ≤ 240 := by
  have b := nf F.2.2.2.1 3 (σ 25 k).toNatClampNeg rfl
  obtain ⟨b1, b2⟩ := b
  have b3 : ((σ 3 (σ 25 k).toNatClampNeg).toNatClampNeg : Int) ≤ 3 := b2
  unfold z_cost
  rw [b1]
  generalize (σ 3 (σ 25 k).toNatClampNeg).toNatClampNeg = g at b3
  have e4 : (4 : Int32) - nI g = nI (4 - g) := isub_nI (a := 4) (by omega) (by omega)
  rw [e4]
  have key : ∀ v : Nat, v ≤ 60 → 0 ≤ (nI v * nI (4 - g)).toInt ∧ (nI v * nI (4 - g)).toInt ≤ 240 := fun v hv => by
    have hm : v * (4 - g) ≤ 60 * 4 := Nat.mul_le_mul hv (by omega)
    rw [qn_mul, nI_toInt (by omega)]; omega
  refine iT_ind (fun y : Int32 => 0 ≤ (y * nI (4 - g)).toInt ∧ (y * nI (4 - g)).toInt ≤ 240) (fun _ => key 60 (by omega)) (fun _ => ?_)
  refine iT_ind (fun y : Int32 => 0 ≤ (y * nI (4 - g)).toInt ∧ (y * nI (4 - g)).toInt ≤ 240) (fun _ => key 40 (by omega)) (fun _ => ?_)
  exact iT_ind (fun y : Int32 => 0 ≤ (y * nI (4 - g)).toInt ∧ (y * nI (4 - g)).toInt ≤ 240) (fun _ => key 20 (by omega)) (fun _ => key 0 (by omega))
theorem last_b (I : LI σ μ t) (F : SF σ n h) (ht : t ≤ 141) {k : Nat} (hk : k < 24) : -1 ≤ (z_last σ k).toInt ∧ (z_last σ k).toInt ≤ 2000 := by
  have b := nf F.2.2.2.1 30 k rfl
  obtain ⟨b1, b2⟩ := b
  have b3 : ((σ 30 k).toNatClampNeg : Int) ≤ 999 := b2
  have i := I.2.2.2.1 k hk
  have e1 : (σ 30 k).toInt = ((σ 30 k).toNatClampNeg : Int) := by
    have := congrArg Int32.toInt b1
    rw [nI_toInt (by omega)] at this
    exact this
  unfold z_last
  rw [tsub, tadd, tl_1, e1]
  omega
theorem LM_cost (F : SF σ n h) (I : LI σ μ t) (ht : t ≤ 140) (k : Nat) {c : Int32} (h0 : 0 ≤ c.toInt) (h1 : c.toInt ≤ 2000) : LM (z_pay μ (σ 24 k).toNatClampNeg 5 c) (150 * (σ 0 0).toNatClampNeg + 32 * (t + 1)) := by
  have b := nf F.2.2.2.1 24 k rfl
  have b3 : ((σ 24 k).toNatClampNeg : Int) ≤ 4 := b.2
  have z := nf F.2.2.2.1 0 0 rfl
  have z3 : ((σ 0 0).toNatClampNeg : Int) ≤ 9999 := z.2
  exact LM_up (by omega) (LM_pay (I.2.2.2.2.2.1) (by omega) (by omega) (by omega) h0 h1)
theorem LI_m (I : LI σ μ t) (hm : LM μ' (150 * (σ 0 0).toNatClampNeg + 32 * (t + 1))) : LI σ μ' (t + 1) := by
  obtain ⟨I1, I2, I4, I5, I7, I8, I9⟩ := I
  refine ⟨I1, I2, I4, fun j hj => ?_, I7, hm, by omega⟩
  have := I5 j hj
  omega
end DNE
