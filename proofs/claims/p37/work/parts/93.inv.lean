/-! what else is so, at every turn of the law -/
def SF (σ : SG) (n : Nat → Nat) (h : Nat) : Prop := DN σ n ∧ σ 0 0 = nI h ∧ h ≤ 9999 ∧ IB σ ∧ DV σ n ∧ DR σ n ∧ FRa σ n ∧ FRb σ n ∧ FRc σ n ∧ FRd σ n ∧ FRe σ n ∧ FRf σ n
theorem ST_SF {e0 x o : Nat} {S : PT} {σ : SG} {μ : MU} {C cap : Nat} (H : ST e0 x o S σ μ C cap) : ∃ n h, SF σ n h ∧ n 6 ≤ C := by
  obtain ⟨ad, n, pl, T, h, -, -, -, -, -, -, hC, h0, h9, ⟨⟨d1, -, -, -, -, -, dv, ib⟩, -, dr, -, -, -, -, fa, fb, fc, fd, fe, ff, -⟩, -⟩ := H
  exact ⟨n, h, ⟨d1, h0, h9, ib, dv, dr, fa, fb, fc, fd, fe, ff⟩, hC⟩
/-- money: all together nothing, the board's never below, no more than B payments' worth -/
def LM (μ : MU) (B : Nat) : Prop := (μ 0).toInt + (μ 1).toInt + (μ 2).toInt + (μ 3).toInt + (μ 4).toInt + (μ 5).toInt = 0 ∧ 0 ≤ (μ 5).toInt ∧ ∀ p, p < 6 → -(2000 * (B : Int)) ≤ (μ p).toInt ∧ (μ p).toInt ≤ 2000 * (B : Int)
def LI (σ : SG) (μ : MU) (t : Nat) : Prop :=
  (∀ q k, q < 240 → k < 24 → σ 13 q = nI k → σ 33 k = 3 ∧ σ 25 k = nI (q / 40) ∧ σ 26 k ≤ nI (q % 40) ∧ nI (q % 40) ≤ σ 27 k) ∧
  (∀ k, k < 24 → ¬ σ 33 k = 3 → σ 37 k = 0) ∧
  (∀ f, f < (σ 40 0).toNatClampNeg → σ 25 (σ 42 f).toNatClampNeg = nI ((σ 41 f).toNatClampNeg / 40) ∧ σ 26 (σ 42 f).toNatClampNeg ≤ nI ((σ 41 f).toNatClampNeg % 40) ∧ nI ((σ 41 f).toNatClampNeg % 40) ≤ σ 27 (σ 42 f).toNatClampNeg) ∧
  (∀ k, k < 24 → 0 ≤ (σ 36 k).toInt ∧ (σ 36 k).toInt ≤ 30 * (t : Int) ∧ 0 ≤ (σ 31 k).toInt ∧ (σ 31 k).toInt ≤ 60 + 2 * (t : Int) ∧ 0 ≤ (σ 35 k).toInt ∧ (σ 35 k).toInt ≤ (t : Int)) ∧
  (∀ s, s < 6 → 0 ≤ (σ 10 s).toInt ∧ (σ 10 s).toInt ≤ 4000 * (σ 0 0).toInt) ∧
  LM μ (150 * (σ 0 0).toNatClampNeg + 32 * t) ∧ (σ 0 0).toInt ≤ 60 * (t : Int)
def LA (σ : SG) (fm fs fw : Nat → Int32) : Prop :=
  (fm 0 = σ 0 0 ∧ fm 1 = σ 1 0 ∧ fm 2 = σ 14 0 ∧ fm 3 = σ 23 0) ∧
  (∀ j, j < (σ 1 0).toNatClampNeg → fs j = σ 2 j ∧ fs (6 + j) = σ 4 j ∧ fs (12 + j) = σ 5 j ∧ 2 ≤ (σ 2 j).toInt ∧ (σ 2 j).toInt ≤ 13) ∧
  (∀ k, k < (σ 23 0).toNatClampNeg → fw (4 * k) = σ 25 k ∧ fw (4 * k + 1) = σ 26 k ∧ fw (4 * k + 2) = σ 27 k ∧ fw (4 * k + 3) = σ 24 k ∧ (σ 28 k).toInt = 10 + 7 * (σ 26 k).toInt + 11 * (σ 27 k).toInt) ∧ (σ 23 0).toNatClampNeg ≤ 16
/-- the law's world between two turns -/
def LW (u9 v9 e0 x m s w : Nat) (S M : PT) (σ : SG) (μ : MU) (C cap t : Nat) : Prop := (∃ o, ST e0 x o S σ μ C cap) ∧ dis S M ∧ MA M m s w (gA M m) (gA M s) (gA M w) ∧ LA σ (gA M m) (gA M s) (gA M w) ∧ LI σ μ t ∧ (C ≤ 2 * t ∧ u9 ≤ (σ 1 0).toNatClampNeg ∧ v9 ≤ (σ 23 0).toNatClampNeg) ∧ cap ≤ 262144
theorem Jlo (x : Int64) : -9223372036854775808 ≤ x.toInt := x.le_toInt
theorem Jhi (x : Int64) : x.toInt < 9223372036854775808 := x.toInt_lt
theorem jadd (x y : Int64) : (x + y).toInt = (x.toInt + y.toInt + 9223372036854775808) % 18446744073709551616 - 9223372036854775808 := by
  have a1 := Jlo x; have a2 := Jhi x; have b1 := Jlo y; have b2 := Jhi y
  rw [Int64.toInt_add, Int.bmod_def]; omega
theorem jsub (x y : Int64) : (x - y).toInt = (x.toInt - y.toInt + 9223372036854775808) % 18446744073709551616 - 9223372036854775808 := by
  have a1 := Jlo x; have a2 := Jhi x; have b1 := Jlo y; have b2 := Jhi y
  rw [Int64.toInt_sub, Int.bmod_def]; omega
theorem jeq {x y : Int64} : x = y ↔ x.toInt = y.toInt := Int64.toInt_inj.symm
theorem jlt {x y : Int64} : x < y ↔ x.toInt < y.toInt := Int64.lt_iff_toInt_lt
theorem jof (x : Int32) : x.toInt64.toInt = x.toInt := Int32.toInt_toInt64 x
theorem pay_at (μ : MU) {a b : Nat} (c : Int32) (p : Nat) : z_pay μ a b c p = iT (p = b) (iT (b = a) (μ a - c.toInt64) (μ b) + c.toInt64) (iT (p = a) (μ a - c.toInt64) (μ p)) := by
  unfold z_pay vp_updL iT
  by_cases h1 : p = b
  · subst h1; simp
  · simp [h1]
/-- a payment by one who digs -/
theorem LM_pay {μ : MU} {B : Nat} (H : LM μ B) (hB : B ≤ 100000000) {a b : Nat} (ha : a < 5) (hb : b < 6) {c : Int32} (h0 : 0 ≤ c.toInt) (h1 : c.toInt ≤ 2000) : LM (z_pay μ a b c) (B + 1) := by
  obtain ⟨hs, h5, hb9⟩ := H
  have ec := jof c
  have val : ∀ p, p < 6 → (z_pay μ a b c p).toInt = (μ p).toInt - (if p = a then c.toInt else 0) + (if p = b then c.toInt else 0) := fun p hp => by
    rw [pay_at]
    have bp := hb9 p hp
    have ba := hb9 a (by omega)
    have bb := hb9 b hb
    by_cases e1 : p = b
    · rw [iT_T e1, if_pos e1, jadd]
      by_cases e2 : b = a
      · rw [iT_T e2, if_pos (e1.trans e2), jsub, ec, ← e2, ← e1]; rw [e1.trans e2] at *; omega
      · rw [iT_F e2, if_neg (fun h => e2 (e1.symm.trans h)), ec, ← e1]; omega
    · rw [iT_F e1, if_neg e1]
      by_cases e2 : p = a
      · rw [iT_T e2, if_pos e2, jsub, ec, ← e2]; rw [e2] at bp ⊢; omega
      · rw [iT_F e2, if_neg e2]; omega
  refine ⟨?_, ?_, fun p hp => ?_⟩
  · rw [val 0 (by omega), val 1 (by omega), val 2 (by omega), val 3 (by omega), val 4 (by omega), val 5 (by omega)]
    rcases (show a = 0 ∨ a = 1 ∨ a = 2 ∨ a = 3 ∨ a = 4 by omega) with e | e | e | e | e <;> subst e <;>
      rcases (show b = 0 ∨ b = 1 ∨ b = 2 ∨ b = 3 ∨ b = 4 ∨ b = 5 by omega) with e | e | e | e | e | e <;> subst e <;> simp <;> omega
  · rw [val 5 (by omega), if_neg (by omega)]
    split <;> omega
  · rw [val p hp]
    have bp := hb9 p hp
    split <;> split <;> omega
theorem LM_up {μ : MU} {B B' : Nat} (h : B ≤ B') (H : LM μ B) : LM μ B' := ⟨H.1, H.2.1, fun p hp => by have := H.2.2 p hp; omega⟩
theorem LM_0 : LM (fun _ => 0) 0 := by
  have z : (0 : Int64).toInt = 0 := by decide
  refine ⟨?_, ?_, fun p _ => ?_⟩ <;> simp only [z] <;> omega
