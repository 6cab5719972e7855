/-! how the class's tables and the reference's state go together. n 1: fills, n 5: streets, n 6: tellings, n 7: things, n 8: works -/
def VC (n : Nat → Nat) (len : Nat → Nat) (k i : Nat) : Prop := match k with
  | 1 => i < n 1
  | 2 => i = 0
  | 3 => i / 40 < n 5 ∧ i % 40 < len (i / 40)
  | 4 => i < 6
  | 5 => i < n 5
  | 6 => i < n 6
  | 7 => i < n 7
  | 8 => i < n 8
  | 9 => i = 0
  | 11 => i = 0
  | 12 => i = 0
  | 13 => False
  | 15 => i < n 5
  | 16 => i = 0
  | 17 => i = 0
  | 18 => i = 0
  | 19 => i = 0
  | 20 => i = 0 ∧ 0 < n 6
  | _ => False
section VCs
variable {n : Nat → Nat} {len : Nat → Nat} {i : Nat}
theorem VC_1 (h : i < n 1) : VC n len 1 i := h
theorem VC_2 : VC n len 2 0 := rfl
theorem VC_3 {j : Nat} (h : j < n 5) (hi : i < len j) (h40 : i < 40) : VC n len 3 (40 * j + i) := by
  have e1 : (40 * j + i) / 40 = j := by omega
  have e2 : (40 * j + i) % 40 = i := by omega
  show (40 * j + i) / 40 < n 5 ∧ (40 * j + i) % 40 < len ((40 * j + i) / 40)
  rw [e1, e2]
  exact ⟨h, hi⟩
theorem VC_4 (h : i < 6) : VC n len 4 i := h
theorem VC_5 (h : i < n 5) : VC n len 5 i := h
theorem VC_6 (h : i < n 6) : VC n len 6 i := h
theorem VC_7 (h : i < n 7) : VC n len 7 i := h
theorem VC_8 (h : i < n 8) : VC n len 8 i := h
theorem VC_9 : VC n len 9 0 := rfl
theorem VC_11 : VC n len 11 0 := rfl
theorem VC_12 : VC n len 12 0 := rfl
theorem VC_13 : ¬ VC n len 13 i := id
theorem VC_15 (h : i < n 5) : VC n len 15 i := h
theorem VC_16 : VC n len 16 0 := rfl
theorem VC_17 : VC n len 17 0 := rfl
theorem VC_18 : VC n len 18 0 := rfl
theorem VC_19 : VC n len 19 0 := rfl
theorem VC_20 (h : 0 < n 6) : VC n len 20 0 := ⟨rfl, h⟩
end VCs
/-- how many there are -/
def DN (σ : SG) (n : Nat → Nat) : Prop := σ 1 0 = nI (n 5) ∧ n 5 ≤ 6 ∧ σ 14 0 = nI (n 7) ∧ n 7 ≤ 30 ∧ σ 23 0 = nI (n 8) ∧ n 8 ≤ 24 ∧ σ 40 0 = nI (n 1) ∧ n 1 ≤ n 6 ∧ n 6 ≤ 512
/-- the object itself -/
def D9 (T : CT) (σ : SG) (n : Nat → Nat) : Prop :=
  tI T 901 0 = nI (n 5) ∧ tI T 903 0 = nI (n 7) ∧ tI T 905 0 = nI (n 8) ∧ tI T 909 0 = σ 0 0 ∧ tP T 900 0 = some 0 ∧ tP T 902 0 = some 0 ∧ tP T 904 0 = some 0 ∧ tP T 906 0 = some 0 ∧ tP T 907 0 = some 0 ∧ tP T 908 0 = some 0 ∧
  tN T 17 0 = 6 ∧ tN T 18 0 = 30 ∧ tN T 19 0 = 24 ∧ tN T 16 0 = 6 ∧ (∀ i, tR T 17 0 i = iT (i < n 5) (some i) none) ∧ (∀ i, tR T 18 0 i = iT (i < n 7) (some i) none) ∧ (∀ i, tR T 19 0 i = iT (i < n 8) (some i) none) ∧ (∀ i, i < 6 → tR T 16 0 i = some i) ∧ tN T 13 0 = 1
/-- a street -/
def D5 (T : CT) (σ : SG) (j : Nat) : Prop :=
  tI T 500 j = nI j ∧ tI T 501 j = σ 3 j ∧ tI T 502 j = σ 4 j ∧ tP T 503 j = iT (σ 5 j = -1) none (some (σ 5 j).toNatClampNeg) ∧ tP T 504 j = some j ∧ tI T 505 j = σ 8 j ∧ (¬ σ 8 j = -1 → tI T 506 j = σ 9 j) ∧ tI T 507 j = σ 6 j ∧ tI T 510 j = 0 ∧ tI T 511 j = σ 10 j ∧
  tN T 15 j = z_len σ j ∧ (∀ i, tR T 15 j i = iT (i < z_len σ j) (some (40 * j + i)) none)
def bitI (x : Int32) (k : Nat) : Prop := x.toBitVec.getLsbD k = true
/-- works -/
def D8 (T : CT) (σ : SG) (k : Nat) : Prop :=
  tI T 800 k = nI k ∧ tI T 801 k = σ 24 k ∧ tP T 802 k = some (σ 25 k).toNatClampNeg ∧ tI T 803 k = σ 29 k ∧ tI T 804 k = σ 32 k ∧ tI T 805 k = σ 26 k ∧ tI T 806 k = σ 27 k ∧ tI T 807 k = σ 28 k ∧ tI T 808 k = σ 30 k ∧ tI T 809 k = z_last σ k ∧ tI T 810 k = σ 33 k ∧ tI T 811 k = σ 34 k ∧ tI T 812 k = σ 35 k ∧ tI T 813 k = σ 36 k ∧
  tI T 815 k = nI (z_opens σ (nI k)) ∧ tI T 816 k = σ 37 k ∧ tI T 817 k = σ 38 k
def D8a (T : CT) (σ : SG) (k : Nat) : Prop := ∀ l, bitI (tI T 814 k) l ↔ (l < 24 ∧ ¬ σ 39 (24 * k + l) = 0)
/-- a thing -/
def D7 (T : CT) (σ : SG) (t : Nat) : Prop :=
  tI T 700 t = σ 15 t ∧ tP T 701 t = some (σ 16 t).toNatClampNeg ∧ tI T 702 t = σ 17 t ∧ tI T 703 t = σ 18 t ∧ tI T 704 t = σ 19 t ∧ tI T 705 t = σ 20 t ∧
  (¬ σ 20 t = 0 → tI T 706 t = iT (σ 21 t < 0) 0 (σ 21 t) ∧ tI T 707 t = iT (σ 2 (σ 16 t).toNatClampNeg - 1 < σ 22 t) (σ 2 (σ 16 t).toNatClampNeg - 1) (σ 22 t))
/-- the number of the last of those below m that is so -/
noncomputable def lastO (P : Nat → Prop) : Nat → Option Nat
  | 0 => none
  | m + 1 => iT (P m) (some m) (lastO P m)
/-- a metre -/
def D3 (T : CT) (σ : SG) (nF q : Nat) : Prop := tI T 300 q = σ 12 q ∧ tI T 301 q = σ 13 q ∧ tI T 302 q = nI (cN (fun k => σ 41 k = nI q) nF) ∧ tP T 303 q = lastO (fun k => σ 41 k = nI q) nF
/-- a fill -/
def D1 (T : CT) (σ : SG) (pl : Nat → Nat) (k : Nat) : Prop := tP T 100 k = some (σ 42 k).toNatClampNeg ∧ tI T 101 k = σ 43 k ∧ tI T 102 k = σ 44 k ∧ tI T 103 k = nI (pl k) ∧ tP T 104 k = lastO (fun l => σ 41 l = σ 41 k) k ∧ tI T 105 k = σ 45 k
/-- a party -/
def D4 (T : CT) (σ : SG) (μ : MU) (nF p : Nat) : Prop := tJ T p = μ p ∧ (p < 5 → tI T 401 p = nI (cN (z_fb σ (nI p)) nF) ∧ tI T 402 p = σ 46 p ∧ tI T 403 p = σ 47 p)
/-- what is so of the reference's state -/
def DV (σ : SG) (n : Nat → Nat) : Prop :=
  (∀ j, j < n 5 → 1 ≤ z_len σ j ∧ (σ 5 j = -1 ∨ (σ 5 j).toNatClampNeg < j)) ∧
  (∀ t, t < n 7 → (σ 16 t).toNatClampNeg < n 5 ∧ σ 17 t ≤ σ 18 t ∧ (σ 18 t).toNatClampNeg < z_len σ (σ 16 t).toNatClampNeg) ∧
  (∀ k, k < n 8 → (σ 25 k).toNatClampNeg < n 5 ∧ σ 26 k ≤ σ 27 k ∧ (σ 27 k).toNatClampNeg < z_len σ (σ 25 k).toNatClampNeg) ∧
  (∀ k, k < n 1 → (σ 42 k).toNatClampNeg < n 8) ∧
  (∀ q, q < 240 → ¬ σ 13 q = -1 → q / 40 < n 5 ∧ q % 40 < z_len σ (q / 40)) ∧
  (∀ k, k < 24 → σ 39 (25 * k) = 0)
