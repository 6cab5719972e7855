/-! the law: a turn -/
section LAWS
variable {u9 v9 e0 m0 x o m s w x0 L : Nat} {xs : Nat → Int32} {S M : PT} {σ : SG} {μ : MU} {C cap t : Nat} {n : Nat → Nat} {h : Nat}
theorem lf_core (k : Nat) : ∀ f, lf f → (u_core σ k) f = σ f := fun f hf => by
  unfold u_core
  rw [up2_g (by unfold lf at hf; omega), up2_g (by unfold lf at hf; omega), up2_g (by unfold lf at hf; omega), up2_g (by unfold lf at hf; omega)]
theorem la_core (k : Nat) : ∀ f, la f → (u_core σ k) f = σ f := fun f hf => by
  unfold u_core
  rw [up2_g (by unfold la at hf; omega), up2_g (by unfold la at hf; omega), up2_g (by unfold la at hf; omega), up2_g (by unfold la at hf; omega)]
theorem lf_defect (k : Int32) : ∀ f, lf f → (u_defect σ k) f = σ f := fun f hf => by
  unfold u_defect
  refine iT_ind (fun y : SG => y f = σ f) (fun _ => ?_) (fun _ => ?_)
  · rw [up2_g (by unfold lf at hf; omega)]
  · rw [up2_g (by unfold lf at hf; omega), up2_g (by unfold lf at hf; omega)]
theorem la_defect (k : Int32) : ∀ f, la f → (u_defect σ k) f = σ f := fun f hf => by
  unfold u_defect
  refine iT_ind (fun y : SG => y f = σ f) (fun _ => ?_) (fun _ => ?_)
  · rw [up2_g (by unfold la at hf; omega)]
  · rw [up2_g (by unfold la at hf; omega), up2_g (by unfold la at hf; omega)]
theorem and_pos (v : Int32) : 0 ≤ (v &&& 2147483647).toInt := by
  have h : (v &&& 2147483647).toBitVec.msb = false := by
    rw [Int32.toBitVec_and, BitVec.msb_and]
    exact Bool.and_false _
  show 0 ≤ (v &&& 2147483647).toBitVec.toInt
  rw [BitVec.toInt_eq_msb_cond, h]
  simp
theorem dz_nI (L : Nat) (xs : Nat → Int32) (k : Int32) : ∃ X : Nat, dz L xs k = nI X ∧ X < 2147483648 := by
  have h := and_pos (if k < nI L then xs k.toNatClampNeg else 2142645277 * (k + 647) + 971 * k * k + 503)
  have e := nI_cl h
  refine ⟨_, e, ?_⟩
  have h1 := Ihi ((if k < nI L then xs k.toNatClampNeg else 2142645277 * (k + 647) + 971 * k * k + 503) &&& 2147483647)
  show ((if k < nI L then xs k.toNatClampNeg else 2142645277 * (k + 647) + 971 * k * k + 503) &&& 2147483647).toInt.toNat < _
  omega
def rf (t : Nat) : Nat := 1 - t % 45
theorem tail_ok (W : LW u9 v9 e0 x m s w S M σ μ C cap (t + 1)) (ht : t < 130) {X Y : Nat} (hX : X < 2147483648) (hY : Y < 2147483648) {mc ms c1 n1 : Nat} {post : Int32 → PT → Prop} {k57 : Nat → Nat → PT → Option Nat → Option Nat → Option Nat → Option Nat → Int32 → Int32 → Prop} (hc : c1 + 640 + 14000 * rf t ≤ mc) (hn : n1 + 4000 + 450000 * rf t ≤ ms) (kn : ∀ c2 n2, c2 ≤ c1 + 640 + 14000 * rf t → n2 ≤ n1 + 4000 + 450000 * rf t → k57 c2 n2 (ov S M) (some x) (some m) (some s) (some w) 1 (nI (t + 1))) : w_L_law_b481 e0 m0 L xs x0 mc ms post k57 c1 n1 (ov S M) (some x) (some m) (some s) (some w) 1 (nI t) (nI X) (nI Y) := by
  have e45 : nI t - nI t / 45 * 45 = nI (t % 45) := irem_nI (b := 45) (by omega) (by omega) (by omega)
  have e3 : nI X / 3 = nI (X / 3) := idiv_nI (b := 3) hX (by omega) (by omega)
  have hr : rf t = 1 - t % 45 := rfl
  have b522 : ∀ {c2 n2 : Nat}, c2 ≤ c1 + 640 + 14000 * rf t → n2 ≤ n1 + 4000 + 450000 * rf t → w_L_law_b522 e0 m0 L xs x0 mc ms post k57 c2 n2 (ov S M) (some x) (some m) (some s) (some w) (nI t) := fun g1 g2 => by
    unfold w_L_law_b522 w_L_law_b527
    rw [qn_s]
    exact ⟨by omega, by omega, by omega, by omega, kn _ _ g1 g2⟩
  unfold w_L_law_b481
  refine ⟨by omega, by omega, fun z => absurd z (by decide), fun _ => ⟨640, 4000, by omega, by omega, ?_⟩⟩
  refine sound_ok W (by omega) hY (Nat.le_refl _) (Nat.le_refl _) ⟨fun z => absurd z (by decide), fun _ => ?_⟩
  rw [e45, e3]
  refine ⟨fun _ => b522 (by omega) (by omega), fun z => ⟨14000, 450000, ?_, ?_, ?_⟩⟩
  · have z2 : ¬ 0 < t % 45 := fun z2 => z ((qn_lt (a := 0) (by omega) (by omega)).mpr z2)
    omega
  · have z2 : ¬ 0 < t % 45 := fun z2 => z ((qn_lt (a := 0) (by omega) (by omega)).mpr z2)
    omega
  · have z2 : ¬ 0 < t % 45 := fun z2 => z ((qn_lt (a := 0) (by omega) (by omega)).mpr z2)
    exact refused_ok W (by omega) (by omega) (Nat.le_refl _) (Nat.le_refl _) ⟨fun z => absurd z (by decide), fun _ => b522 (by omega) (by omega)⟩
end LAWS
