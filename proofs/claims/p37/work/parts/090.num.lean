/-! numbers of 32 bits by their integers -/
theorem I0 : (0 : Int32).toInt = 0 := by decide
theorem Ilo (x : Int32) : -2147483648 ≤ x.toInt := x.le_toInt
theorem Ihi (x : Int32) : x.toInt < 2147483648 := x.toInt_lt
theorem tadd (x y : Int32) : (x + y).toInt = (x.toInt + y.toInt + 2147483648) % 4294967296 - 2147483648 := by
  have a1 := Ilo x; have a2 := Ihi x; have b1 := Ilo y; have b2 := Ihi y
  rw [Int32.toInt_add, Int.bmod_def]; omega
theorem tsub (x y : Int32) : (x - y).toInt = (x.toInt - y.toInt + 2147483648) % 4294967296 - 2147483648 := by
  have a1 := Ilo x; have a2 := Ihi x; have b1 := Ilo y; have b2 := Ihi y
  rw [Int32.toInt_sub, Int.bmod_def]; omega
theorem tmul (x y : Int32) : (x * y).toInt = (x.toInt * y.toInt + 2147483648) % 4294967296 - 2147483648 := by
  rw [Int32.toInt_mul, Int.bmod_def]; omega
theorem tneg (x : Int32) : (-x).toInt = (-x.toInt + 2147483648) % 4294967296 - 2147483648 := by
  have a1 := Ilo x; have a2 := Ihi x
  rw [Int32.toInt_neg, Int.bmod_def]; omega
/-- a quotient of a number that is not below 0 -/
theorem tdiv {x y : Int32} (h : 0 ≤ x.toInt) (hy : 0 < y.toInt) : (x / y).toInt = x.toInt / y.toInt := by
  have a2 := Ihi x
  have e : x.toInt.tdiv y.toInt = x.toInt / y.toInt := Int.tdiv_eq_ediv_of_nonneg h
  have h1 : 0 ≤ x.toInt / y.toInt := Int.ediv_nonneg h (by omega)
  have h2 : x.toInt / y.toInt ≤ x.toInt := Int.ediv_le_self _ h
  rw [Int32.toInt_div, e, Int.bmod_def]
  omega
theorem ieq {x y : Int32} : x = y ↔ x.toInt = y.toInt := Int32.toInt_inj.symm
theorem ilt {x y : Int32} : x < y ↔ x.toInt < y.toInt := Int32.lt_iff_toInt_lt
theorem ile {x y : Int32} : x ≤ y ↔ x.toInt ≤ y.toInt := Int32.le_iff_toInt_le
theorem qn_nat {n : Nat} (h : n < 2147483648) : (nI n).toNatClampNeg = n := by
  unfold nI; exact Int32.toNatClampNeg_ofNat_of_lt (by omega)
theorem qn_eq {a b : Nat} (ha : a < 2147483648) (hb : b < 2147483648) : nI a = nI b ↔ a = b := by
  rw [ieq, nI_toInt ha, nI_toInt hb]; omega
theorem qn_0 : nI 0 = 0 := rfl
theorem qn_s (k : Nat) : nI k + 1 = nI (k + 1) := by
  unfold nI; exact (Int32.ofNat_add k 1).symm
theorem qn_add (a b : Nat) : nI a + nI b = nI (a + b) := by
  unfold nI; exact (Int32.ofNat_add a b).symm
theorem qn_mul (a b : Nat) : nI a * nI b = nI (a * b) := by
  unfold nI; exact (Int32.ofNat_mul a b).symm
theorem qn_lit40 : (40 : Int32) = nI 40 := rfl
theorem qn_lit24 : (24 : Int32) = nI 24 := rfl
theorem qn_le {a b : Nat} (ha : a < 2147483648) (hb : b < 2147483648) : nI a ≤ nI b ↔ a ≤ b := by
  rw [ile, nI_toInt ha, nI_toInt hb]; omega
theorem qn_lt {a b : Nat} (ha : a < 2147483648) (hb : b < 2147483648) : nI a < nI b ↔ a < b := by
  rw [ilt, nI_toInt ha, nI_toInt hb]; omega
/-- what lies between 0 and n - 1 is a place -/
theorem ex_nI {x : Int32} {n : Nat} (h0 : ¬ x < 0) (h1 : x.toInt < n) : ∃ k, k < n ∧ x = nI k ∧ k < 2147483648 := by
  have a2 := Ihi x
  rw [ilt, I0] at h0
  refine ⟨x.toInt.toNat, by omega, ?_, by omega⟩
  rw [ieq, nI_toInt (by omega)]
  omega
theorem vin_nI {k n : Nat} (hk : k < n) (hn : n < 2147483648) : vp_in (nI k) n := by
  unfold vp_in
  rw [ilt, nI_toInt (by omega), qn_nat (by omega), I0]; omega
theorem vin_ex {x : Int32} {n : Nat} (h : vp_in x n) : ∃ k, k < n ∧ x = nI k ∧ k < 2147483648 := by
  have a2 := Ihi x
  unfold vp_in Int32.toNatClampNeg at h
  rw [ilt, I0] at h
  exact ex_nI (by rw [ilt, I0]; omega) (by omega)
/-- one of two -/
noncomputable def iT {α : Sort _} (P : Prop) (a b : α) : α := @ite α P (Classical.propDecidable P) a b
theorem iT_T {α : Sort _} {P : Prop} {a b : α} (h : P) : iT P a b = a := if_pos h
theorem iT_F {α : Sort _} {P : Prop} {a b : α} (h : ¬ P) : iT P a b = b := if_neg h
/-- 1 where it holds, 0 where not -/
noncomputable def bI (P : Prop) : Int32 := iT P 1 0
theorem bI_T {P : Prop} (h : P) : bI P = 1 := if_pos h
theorem bI_F {P : Prop} (h : ¬ P) : bI P = 0 := if_neg h
theorem bI_c {P Q : Prop} (h : P ↔ Q) : bI P = bI Q := by rw [propext h]
theorem bI_0 {P : Prop} : (bI P = 0) = ¬ P := by
  by_cases h : P
  · rw [bI_T h]; simp [h]
  · rw [bI_F h]; simp [h]
theorem bI_bo {P : Prop} : bo (bI P) = True := by
  by_cases h : P
  · rw [bI_T h]; simp [bo_1]
  · rw [bI_F h]; simp [bo_0]
theorem br2 {P A B : Prop} : ((P → A) ∧ (¬ P → B)) = (iT P A B : Prop) := by
  by_cases h : P
  · rw [iT_T h]; simp [h]
  · rw [iT_F h]; simp [h]
theorem br2' {P A B : Prop} : ((¬ P → A) ∧ (P → B)) = (iT P B A : Prop) := by
  by_cases h : P
  · rw [iT_T h]; simp [h]
  · rw [iT_F h]; simp [h]
