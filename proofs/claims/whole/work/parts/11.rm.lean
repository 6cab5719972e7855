/-! the pool of the reference by its fields -/
abbrev SG : Type := Nat → Nat → Int32
abbrev MU : Type := Nat → Int64
def aM (f : Nat) : Bool := decide (2 ≤ f) && decide (f ≤ 48) && !(f == 14) && !(f == 23) && !(f == 40)
def cM (f : Nat) : Bool := f == 0 || f == 1 || f == 14 || f == 23 || f == 40 || f == 49
def kM (f : Nat) : Nat := if f = 48 then 13 else if f = 12 ∨ f = 20 ∨ f = 37 ∨ f = 38 ∨ f = 39 ∨ f = 45 then 14 else 12
def lM (f : Nat) : Nat := if f ≤ 11 then 6 else if f ≤ 13 then 240 else if f ≤ 22 then 30 else if f ≤ 38 then 24 else if f = 39 then 576 else if f ≤ 45 then 1024 else if f ≤ 47 then 5 else 6
def RM (A : Nat → Nat) (m : Nat) (S : PT) (σ : SG) (μ : MU) : Prop :=
  gK S m = 10 ∧ (∀ f g, aM f = true → aM g = true → A f = A g → f = g) ∧ (∀ f, aM f = true → gP S (1000 + f) m = some (A f) ∧ gK S (A f) = kM f ∧ gN S (A f) = lM f) ∧ (∀ f, aM f = true → f ≠ 48 → gA S (A f) = σ f) ∧ (∀ f, cM f = true → gI S (1000 + f) m = σ f 0) ∧ gB S (A 48) = μ
section RMs
variable {A : Nat → Nat} {m : Nat} {S : PT} {σ : SG} {μ : MU}
theorem RM_K (R : RM A m S σ μ) : gK S m = 10 := R.1
theorem RM_P2 (R : RM A m S σ μ) : gP S 1002 m = some (A 2) := (R.2.2.1 2 rfl).1
theorem RM_k2 (R : RM A m S σ μ) : gK S (A 2) = 12 := (R.2.2.1 2 rfl).2.1
theorem RM_n2 (R : RM A m S σ μ) : gN S (A 2) = 6 := (R.2.2.1 2 rfl).2.2
theorem RM_a2 (R : RM A m S σ μ) : gA S (A 2) = σ 2 := R.2.2.2.1 2 rfl (by decide)
theorem RM_P3 (R : RM A m S σ μ) : gP S 1003 m = some (A 3) := (R.2.2.1 3 rfl).1
theorem RM_k3 (R : RM A m S σ μ) : gK S (A 3) = 12 := (R.2.2.1 3 rfl).2.1
theorem RM_n3 (R : RM A m S σ μ) : gN S (A 3) = 6 := (R.2.2.1 3 rfl).2.2
theorem RM_a3 (R : RM A m S σ μ) : gA S (A 3) = σ 3 := R.2.2.2.1 3 rfl (by decide)
theorem RM_P4 (R : RM A m S σ μ) : gP S 1004 m = some (A 4) := (R.2.2.1 4 rfl).1
theorem RM_k4 (R : RM A m S σ μ) : gK S (A 4) = 12 := (R.2.2.1 4 rfl).2.1
theorem RM_n4 (R : RM A m S σ μ) : gN S (A 4) = 6 := (R.2.2.1 4 rfl).2.2
theorem RM_a4 (R : RM A m S σ μ) : gA S (A 4) = σ 4 := R.2.2.2.1 4 rfl (by decide)
theorem RM_P5 (R : RM A m S σ μ) : gP S 1005 m = some (A 5) := (R.2.2.1 5 rfl).1
theorem RM_k5 (R : RM A m S σ μ) : gK S (A 5) = 12 := (R.2.2.1 5 rfl).2.1
theorem RM_n5 (R : RM A m S σ μ) : gN S (A 5) = 6 := (R.2.2.1 5 rfl).2.2
theorem RM_a5 (R : RM A m S σ μ) : gA S (A 5) = σ 5 := R.2.2.2.1 5 rfl (by decide)
theorem RM_P6 (R : RM A m S σ μ) : gP S 1006 m = some (A 6) := (R.2.2.1 6 rfl).1
theorem RM_k6 (R : RM A m S σ μ) : gK S (A 6) = 12 := (R.2.2.1 6 rfl).2.1
theorem RM_n6 (R : RM A m S σ μ) : gN S (A 6) = 6 := (R.2.2.1 6 rfl).2.2
theorem RM_a6 (R : RM A m S σ μ) : gA S (A 6) = σ 6 := R.2.2.2.1 6 rfl (by decide)
theorem RM_P7 (R : RM A m S σ μ) : gP S 1007 m = some (A 7) := (R.2.2.1 7 rfl).1
theorem RM_k7 (R : RM A m S σ μ) : gK S (A 7) = 12 := (R.2.2.1 7 rfl).2.1
theorem RM_n7 (R : RM A m S σ μ) : gN S (A 7) = 6 := (R.2.2.1 7 rfl).2.2
theorem RM_a7 (R : RM A m S σ μ) : gA S (A 7) = σ 7 := R.2.2.2.1 7 rfl (by decide)
theorem RM_P8 (R : RM A m S σ μ) : gP S 1008 m = some (A 8) := (R.2.2.1 8 rfl).1
theorem RM_k8 (R : RM A m S σ μ) : gK S (A 8) = 12 := (R.2.2.1 8 rfl).2.1
theorem RM_n8 (R : RM A m S σ μ) : gN S (A 8) = 6 := (R.2.2.1 8 rfl).2.2
theorem RM_a8 (R : RM A m S σ μ) : gA S (A 8) = σ 8 := R.2.2.2.1 8 rfl (by decide)
theorem RM_P9 (R : RM A m S σ μ) : gP S 1009 m = some (A 9) := (R.2.2.1 9 rfl).1
theorem RM_k9 (R : RM A m S σ μ) : gK S (A 9) = 12 := (R.2.2.1 9 rfl).2.1
theorem RM_n9 (R : RM A m S σ μ) : gN S (A 9) = 6 := (R.2.2.1 9 rfl).2.2
theorem RM_a9 (R : RM A m S σ μ) : gA S (A 9) = σ 9 := R.2.2.2.1 9 rfl (by decide)
theorem RM_P10 (R : RM A m S σ μ) : gP S 1010 m = some (A 10) := (R.2.2.1 10 rfl).1
theorem RM_k10 (R : RM A m S σ μ) : gK S (A 10) = 12 := (R.2.2.1 10 rfl).2.1
theorem RM_n10 (R : RM A m S σ μ) : gN S (A 10) = 6 := (R.2.2.1 10 rfl).2.2
theorem RM_a10 (R : RM A m S σ μ) : gA S (A 10) = σ 10 := R.2.2.2.1 10 rfl (by decide)
theorem RM_P11 (R : RM A m S σ μ) : gP S 1011 m = some (A 11) := (R.2.2.1 11 rfl).1
theorem RM_k11 (R : RM A m S σ μ) : gK S (A 11) = 12 := (R.2.2.1 11 rfl).2.1
theorem RM_n11 (R : RM A m S σ μ) : gN S (A 11) = 6 := (R.2.2.1 11 rfl).2.2
theorem RM_a11 (R : RM A m S σ μ) : gA S (A 11) = σ 11 := R.2.2.2.1 11 rfl (by decide)
theorem RM_P12 (R : RM A m S σ μ) : gP S 1012 m = some (A 12) := (R.2.2.1 12 rfl).1
theorem RM_k12 (R : RM A m S σ μ) : gK S (A 12) = 14 := (R.2.2.1 12 rfl).2.1
theorem RM_n12 (R : RM A m S σ μ) : gN S (A 12) = 240 := (R.2.2.1 12 rfl).2.2
theorem RM_a12 (R : RM A m S σ μ) : gA S (A 12) = σ 12 := R.2.2.2.1 12 rfl (by decide)
theorem RM_P13 (R : RM A m S σ μ) : gP S 1013 m = some (A 13) := (R.2.2.1 13 rfl).1
theorem RM_k13 (R : RM A m S σ μ) : gK S (A 13) = 12 := (R.2.2.1 13 rfl).2.1
theorem RM_n13 (R : RM A m S σ μ) : gN S (A 13) = 240 := (R.2.2.1 13 rfl).2.2
theorem RM_a13 (R : RM A m S σ μ) : gA S (A 13) = σ 13 := R.2.2.2.1 13 rfl (by decide)
theorem RM_P15 (R : RM A m S σ μ) : gP S 1015 m = some (A 15) := (R.2.2.1 15 rfl).1
theorem RM_k15 (R : RM A m S σ μ) : gK S (A 15) = 12 := (R.2.2.1 15 rfl).2.1
theorem RM_n15 (R : RM A m S σ μ) : gN S (A 15) = 30 := (R.2.2.1 15 rfl).2.2
theorem RM_a15 (R : RM A m S σ μ) : gA S (A 15) = σ 15 := R.2.2.2.1 15 rfl (by decide)
theorem RM_P16 (R : RM A m S σ μ) : gP S 1016 m = some (A 16) := (R.2.2.1 16 rfl).1
theorem RM_k16 (R : RM A m S σ μ) : gK S (A 16) = 12 := (R.2.2.1 16 rfl).2.1
theorem RM_n16 (R : RM A m S σ μ) : gN S (A 16) = 30 := (R.2.2.1 16 rfl).2.2
theorem RM_a16 (R : RM A m S σ μ) : gA S (A 16) = σ 16 := R.2.2.2.1 16 rfl (by decide)
theorem RM_P17 (R : RM A m S σ μ) : gP S 1017 m = some (A 17) := (R.2.2.1 17 rfl).1
theorem RM_k17 (R : RM A m S σ μ) : gK S (A 17) = 12 := (R.2.2.1 17 rfl).2.1
theorem RM_n17 (R : RM A m S σ μ) : gN S (A 17) = 30 := (R.2.2.1 17 rfl).2.2
theorem RM_a17 (R : RM A m S σ μ) : gA S (A 17) = σ 17 := R.2.2.2.1 17 rfl (by decide)
theorem RM_P18 (R : RM A m S σ μ) : gP S 1018 m = some (A 18) := (R.2.2.1 18 rfl).1
theorem RM_k18 (R : RM A m S σ μ) : gK S (A 18) = 12 := (R.2.2.1 18 rfl).2.1
theorem RM_n18 (R : RM A m S σ μ) : gN S (A 18) = 30 := (R.2.2.1 18 rfl).2.2
theorem RM_a18 (R : RM A m S σ μ) : gA S (A 18) = σ 18 := R.2.2.2.1 18 rfl (by decide)
theorem RM_P19 (R : RM A m S σ μ) : gP S 1019 m = some (A 19) := (R.2.2.1 19 rfl).1
theorem RM_k19 (R : RM A m S σ μ) : gK S (A 19) = 12 := (R.2.2.1 19 rfl).2.1
theorem RM_n19 (R : RM A m S σ μ) : gN S (A 19) = 30 := (R.2.2.1 19 rfl).2.2
theorem RM_a19 (R : RM A m S σ μ) : gA S (A 19) = σ 19 := R.2.2.2.1 19 rfl (by decide)
theorem RM_P20 (R : RM A m S σ μ) : gP S 1020 m = some (A 20) := (R.2.2.1 20 rfl).1
theorem RM_k20 (R : RM A m S σ μ) : gK S (A 20) = 14 := (R.2.2.1 20 rfl).2.1
theorem RM_n20 (R : RM A m S σ μ) : gN S (A 20) = 30 := (R.2.2.1 20 rfl).2.2
theorem RM_a20 (R : RM A m S σ μ) : gA S (A 20) = σ 20 := R.2.2.2.1 20 rfl (by decide)
theorem RM_P21 (R : RM A m S σ μ) : gP S 1021 m = some (A 21) := (R.2.2.1 21 rfl).1
theorem RM_k21 (R : RM A m S σ μ) : gK S (A 21) = 12 := (R.2.2.1 21 rfl).2.1
theorem RM_n21 (R : RM A m S σ μ) : gN S (A 21) = 30 := (R.2.2.1 21 rfl).2.2
theorem RM_a21 (R : RM A m S σ μ) : gA S (A 21) = σ 21 := R.2.2.2.1 21 rfl (by decide)
theorem RM_P22 (R : RM A m S σ μ) : gP S 1022 m = some (A 22) := (R.2.2.1 22 rfl).1
theorem RM_k22 (R : RM A m S σ μ) : gK S (A 22) = 12 := (R.2.2.1 22 rfl).2.1
theorem RM_n22 (R : RM A m S σ μ) : gN S (A 22) = 30 := (R.2.2.1 22 rfl).2.2
theorem RM_a22 (R : RM A m S σ μ) : gA S (A 22) = σ 22 := R.2.2.2.1 22 rfl (by decide)
theorem RM_P24 (R : RM A m S σ μ) : gP S 1024 m = some (A 24) := (R.2.2.1 24 rfl).1
theorem RM_k24 (R : RM A m S σ μ) : gK S (A 24) = 12 := (R.2.2.1 24 rfl).2.1
theorem RM_n24 (R : RM A m S σ μ) : gN S (A 24) = 24 := (R.2.2.1 24 rfl).2.2
theorem RM_a24 (R : RM A m S σ μ) : gA S (A 24) = σ 24 := R.2.2.2.1 24 rfl (by decide)
theorem RM_P25 (R : RM A m S σ μ) : gP S 1025 m = some (A 25) := (R.2.2.1 25 rfl).1
theorem RM_k25 (R : RM A m S σ μ) : gK S (A 25) = 12 := (R.2.2.1 25 rfl).2.1
theorem RM_n25 (R : RM A m S σ μ) : gN S (A 25) = 24 := (R.2.2.1 25 rfl).2.2
theorem RM_a25 (R : RM A m S σ μ) : gA S (A 25) = σ 25 := R.2.2.2.1 25 rfl (by decide)
theorem RM_P26 (R : RM A m S σ μ) : gP S 1026 m = some (A 26) := (R.2.2.1 26 rfl).1
theorem RM_k26 (R : RM A m S σ μ) : gK S (A 26) = 12 := (R.2.2.1 26 rfl).2.1
theorem RM_n26 (R : RM A m S σ μ) : gN S (A 26) = 24 := (R.2.2.1 26 rfl).2.2
theorem RM_a26 (R : RM A m S σ μ) : gA S (A 26) = σ 26 := R.2.2.2.1 26 rfl (by decide)
theorem RM_P27 (R : RM A m S σ μ) : gP S 1027 m = some (A 27) := (R.2.2.1 27 rfl).1
theorem RM_k27 (R : RM A m S σ μ) : gK S (A 27) = 12 := (R.2.2.1 27 rfl).2.1
theorem RM_n27 (R : RM A m S σ μ) : gN S (A 27) = 24 := (R.2.2.1 27 rfl).2.2
theorem RM_a27 (R : RM A m S σ μ) : gA S (A 27) = σ 27 := R.2.2.2.1 27 rfl (by decide)
theorem RM_P28 (R : RM A m S σ μ) : gP S 1028 m = some (A 28) := (R.2.2.1 28 rfl).1
theorem RM_k28 (R : RM A m S σ μ) : gK S (A 28) = 12 := (R.2.2.1 28 rfl).2.1
theorem RM_n28 (R : RM A m S σ μ) : gN S (A 28) = 24 := (R.2.2.1 28 rfl).2.2
theorem RM_a28 (R : RM A m S σ μ) : gA S (A 28) = σ 28 := R.2.2.2.1 28 rfl (by decide)
theorem RM_P29 (R : RM A m S σ μ) : gP S 1029 m = some (A 29) := (R.2.2.1 29 rfl).1
theorem RM_k29 (R : RM A m S σ μ) : gK S (A 29) = 12 := (R.2.2.1 29 rfl).2.1
theorem RM_n29 (R : RM A m S σ μ) : gN S (A 29) = 24 := (R.2.2.1 29 rfl).2.2
theorem RM_a29 (R : RM A m S σ μ) : gA S (A 29) = σ 29 := R.2.2.2.1 29 rfl (by decide)
theorem RM_P30 (R : RM A m S σ μ) : gP S 1030 m = some (A 30) := (R.2.2.1 30 rfl).1
theorem RM_k30 (R : RM A m S σ μ) : gK S (A 30) = 12 := (R.2.2.1 30 rfl).2.1
theorem RM_n30 (R : RM A m S σ μ) : gN S (A 30) = 24 := (R.2.2.1 30 rfl).2.2
theorem RM_a30 (R : RM A m S σ μ) : gA S (A 30) = σ 30 := R.2.2.2.1 30 rfl (by decide)
theorem RM_P31 (R : RM A m S σ μ) : gP S 1031 m = some (A 31) := (R.2.2.1 31 rfl).1
theorem RM_k31 (R : RM A m S σ μ) : gK S (A 31) = 12 := (R.2.2.1 31 rfl).2.1
theorem RM_n31 (R : RM A m S σ μ) : gN S (A 31) = 24 := (R.2.2.1 31 rfl).2.2
theorem RM_a31 (R : RM A m S σ μ) : gA S (A 31) = σ 31 := R.2.2.2.1 31 rfl (by decide)
theorem RM_P32 (R : RM A m S σ μ) : gP S 1032 m = some (A 32) := (R.2.2.1 32 rfl).1
theorem RM_k32 (R : RM A m S σ μ) : gK S (A 32) = 12 := (R.2.2.1 32 rfl).2.1
theorem RM_n32 (R : RM A m S σ μ) : gN S (A 32) = 24 := (R.2.2.1 32 rfl).2.2
theorem RM_a32 (R : RM A m S σ μ) : gA S (A 32) = σ 32 := R.2.2.2.1 32 rfl (by decide)
theorem RM_P33 (R : RM A m S σ μ) : gP S 1033 m = some (A 33) := (R.2.2.1 33 rfl).1
theorem RM_k33 (R : RM A m S σ μ) : gK S (A 33) = 12 := (R.2.2.1 33 rfl).2.1
theorem RM_n33 (R : RM A m S σ μ) : gN S (A 33) = 24 := (R.2.2.1 33 rfl).2.2
theorem RM_a33 (R : RM A m S σ μ) : gA S (A 33) = σ 33 := R.2.2.2.1 33 rfl (by decide)
theorem RM_P34 (R : RM A m S σ μ) : gP S 1034 m = some (A 34) := (R.2.2.1 34 rfl).1
theorem RM_k34 (R : RM A m S σ μ) : gK S (A 34) = 12 := (R.2.2.1 34 rfl).2.1
theorem RM_n34 (R : RM A m S σ μ) : gN S (A 34) = 24 := (R.2.2.1 34 rfl).2.2
theorem RM_a34 (R : RM A m S σ μ) : gA S (A 34) = σ 34 := R.2.2.2.1 34 rfl (by decide)
theorem RM_P35 (R : RM A m S σ μ) : gP S 1035 m = some (A 35) := (R.2.2.1 35 rfl).1
theorem RM_k35 (R : RM A m S σ μ) : gK S (A 35) = 12 := (R.2.2.1 35 rfl).2.1
theorem RM_n35 (R : RM A m S σ μ) : gN S (A 35) = 24 := (R.2.2.1 35 rfl).2.2
theorem RM_a35 (R : RM A m S σ μ) : gA S (A 35) = σ 35 := R.2.2.2.1 35 rfl (by decide)
theorem RM_P36 (R : RM A m S σ μ) : gP S 1036 m = some (A 36) := (R.2.2.1 36 rfl).1
theorem RM_k36 (R : RM A m S σ μ) : gK S (A 36) = 12 := (R.2.2.1 36 rfl).2.1
theorem RM_n36 (R : RM A m S σ μ) : gN S (A 36) = 24 := (R.2.2.1 36 rfl).2.2
theorem RM_a36 (R : RM A m S σ μ) : gA S (A 36) = σ 36 := R.2.2.2.1 36 rfl (by decide)
theorem RM_P37 (R : RM A m S σ μ) : gP S 1037 m = some (A 37) := (R.2.2.1 37 rfl).1
theorem RM_k37 (R : RM A m S σ μ) : gK S (A 37) = 14 := (R.2.2.1 37 rfl).2.1
theorem RM_n37 (R : RM A m S σ μ) : gN S (A 37) = 24 := (R.2.2.1 37 rfl).2.2
theorem RM_a37 (R : RM A m S σ μ) : gA S (A 37) = σ 37 := R.2.2.2.1 37 rfl (by decide)
theorem RM_P38 (R : RM A m S σ μ) : gP S 1038 m = some (A 38) := (R.2.2.1 38 rfl).1
theorem RM_k38 (R : RM A m S σ μ) : gK S (A 38) = 14 := (R.2.2.1 38 rfl).2.1
theorem RM_n38 (R : RM A m S σ μ) : gN S (A 38) = 24 := (R.2.2.1 38 rfl).2.2
theorem RM_a38 (R : RM A m S σ μ) : gA S (A 38) = σ 38 := R.2.2.2.1 38 rfl (by decide)
theorem RM_P39 (R : RM A m S σ μ) : gP S 1039 m = some (A 39) := (R.2.2.1 39 rfl).1
theorem RM_k39 (R : RM A m S σ μ) : gK S (A 39) = 14 := (R.2.2.1 39 rfl).2.1
theorem RM_n39 (R : RM A m S σ μ) : gN S (A 39) = 576 := (R.2.2.1 39 rfl).2.2
theorem RM_a39 (R : RM A m S σ μ) : gA S (A 39) = σ 39 := R.2.2.2.1 39 rfl (by decide)
theorem RM_P41 (R : RM A m S σ μ) : gP S 1041 m = some (A 41) := (R.2.2.1 41 rfl).1
theorem RM_k41 (R : RM A m S σ μ) : gK S (A 41) = 12 := (R.2.2.1 41 rfl).2.1
theorem RM_n41 (R : RM A m S σ μ) : gN S (A 41) = 1024 := (R.2.2.1 41 rfl).2.2
theorem RM_a41 (R : RM A m S σ μ) : gA S (A 41) = σ 41 := R.2.2.2.1 41 rfl (by decide)
theorem RM_P42 (R : RM A m S σ μ) : gP S 1042 m = some (A 42) := (R.2.2.1 42 rfl).1
theorem RM_k42 (R : RM A m S σ μ) : gK S (A 42) = 12 := (R.2.2.1 42 rfl).2.1
theorem RM_n42 (R : RM A m S σ μ) : gN S (A 42) = 1024 := (R.2.2.1 42 rfl).2.2
theorem RM_a42 (R : RM A m S σ μ) : gA S (A 42) = σ 42 := R.2.2.2.1 42 rfl (by decide)
theorem RM_P43 (R : RM A m S σ μ) : gP S 1043 m = some (A 43) := (R.2.2.1 43 rfl).1
theorem RM_k43 (R : RM A m S σ μ) : gK S (A 43) = 12 := (R.2.2.1 43 rfl).2.1
theorem RM_n43 (R : RM A m S σ μ) : gN S (A 43) = 1024 := (R.2.2.1 43 rfl).2.2
theorem RM_a43 (R : RM A m S σ μ) : gA S (A 43) = σ 43 := R.2.2.2.1 43 rfl (by decide)
theorem RM_P44 (R : RM A m S σ μ) : gP S 1044 m = some (A 44) := (R.2.2.1 44 rfl).1
theorem RM_k44 (R : RM A m S σ μ) : gK S (A 44) = 12 := (R.2.2.1 44 rfl).2.1
theorem RM_n44 (R : RM A m S σ μ) : gN S (A 44) = 1024 := (R.2.2.1 44 rfl).2.2
theorem RM_a44 (R : RM A m S σ μ) : gA S (A 44) = σ 44 := R.2.2.2.1 44 rfl (by decide)
theorem RM_P45 (R : RM A m S σ μ) : gP S 1045 m = some (A 45) := (R.2.2.1 45 rfl).1
theorem RM_k45 (R : RM A m S σ μ) : gK S (A 45) = 14 := (R.2.2.1 45 rfl).2.1
theorem RM_n45 (R : RM A m S σ μ) : gN S (A 45) = 1024 := (R.2.2.1 45 rfl).2.2
theorem RM_a45 (R : RM A m S σ μ) : gA S (A 45) = σ 45 := R.2.2.2.1 45 rfl (by decide)
theorem RM_P46 (R : RM A m S σ μ) : gP S 1046 m = some (A 46) := (R.2.2.1 46 rfl).1
theorem RM_k46 (R : RM A m S σ μ) : gK S (A 46) = 12 := (R.2.2.1 46 rfl).2.1
theorem RM_n46 (R : RM A m S σ μ) : gN S (A 46) = 5 := (R.2.2.1 46 rfl).2.2
theorem RM_a46 (R : RM A m S σ μ) : gA S (A 46) = σ 46 := R.2.2.2.1 46 rfl (by decide)
theorem RM_P47 (R : RM A m S σ μ) : gP S 1047 m = some (A 47) := (R.2.2.1 47 rfl).1
theorem RM_k47 (R : RM A m S σ μ) : gK S (A 47) = 12 := (R.2.2.1 47 rfl).2.1
theorem RM_n47 (R : RM A m S σ μ) : gN S (A 47) = 5 := (R.2.2.1 47 rfl).2.2
theorem RM_a47 (R : RM A m S σ μ) : gA S (A 47) = σ 47 := R.2.2.2.1 47 rfl (by decide)
theorem RM_P48 (R : RM A m S σ μ) : gP S 1048 m = some (A 48) := (R.2.2.1 48 rfl).1
theorem RM_k48 (R : RM A m S σ μ) : gK S (A 48) = 13 := (R.2.2.1 48 rfl).2.1
theorem RM_n48 (R : RM A m S σ μ) : gN S (A 48) = 6 := (R.2.2.1 48 rfl).2.2
theorem RM_i0 (R : RM A m S σ μ) : gI S 1000 m = σ 0 0 := R.2.2.2.2.1 0 rfl
theorem RM_i1 (R : RM A m S σ μ) : gI S 1001 m = σ 1 0 := R.2.2.2.2.1 1 rfl
theorem RM_i14 (R : RM A m S σ μ) : gI S 1014 m = σ 14 0 := R.2.2.2.2.1 14 rfl
theorem RM_i23 (R : RM A m S σ μ) : gI S 1023 m = σ 23 0 := R.2.2.2.2.1 23 rfl
theorem RM_i40 (R : RM A m S σ μ) : gI S 1040 m = σ 40 0 := R.2.2.2.2.1 40 rfl
theorem RM_i49 (R : RM A m S σ μ) : gI S 1049 m = σ 49 0 := R.2.2.2.2.1 49 rfl
theorem RM_b (R : RM A m S σ μ) : gB S (A 48) = μ := R.2.2.2.2.2
theorem RM_wA (R : RM A m S σ μ) {f : Nat} (h : aM f = true) (h8 : f ≠ 48) (i : Nat) (v : Int32) : RM A m (sA S (A f) i v) (up2 σ f i v) μ := by
  obtain ⟨r1, r2, r3, r4, r5, r6⟩ := R
  refine ⟨r1, r2, r3, fun g hg g8 => ?_, fun g hg => ?_, r6⟩
  · show va_up (gA S) (A f) (upd (gA S (A f)) i v) (A g) = up2 σ f i v g
    funext j
    by_cases e : g = f
    · subst e
      simp [va_up, upd, up2, r4 g hg g8]
    · have e2 : ¬ A g = A f := fun e3 => e (r2 g f hg h e3)
      simp [va_up, up2, e, e2, r4 g hg g8]
  · have e : g ≠ f := fun e => by subst e; simp [aM, cM] at h hg; omega
    show gI S (1000 + g) m = up2 σ f i v g 0
    simp [up2, e, r5 g hg]
theorem RM_wI (R : RM A m S σ μ) {f : Nat} (h : cM f = true) (v : Int32) : RM A m (sI S (1000 + f) m v) (up2 σ f 0 v) μ := by
  obtain ⟨r1, r2, r3, r4, r5, r6⟩ := R
  refine ⟨r1, r2, r3, fun g hg g8 => ?_, fun g hg => ?_, r6⟩
  · have e : g ≠ f := fun e => by subst e; simp [aM, cM] at h hg; omega
    show gA S (A g) = up2 σ f 0 v g
    rw [r4 g hg g8]
    funext j
    simp [up2, e]
  · show up2 (gI S) (1000 + f) m v (1000 + g) m = up2 σ f 0 v g 0
    simp only [up2, r5 g hg]
    by_cases e : g = f
    · subst e; simp
    · rw [if_neg (by omega), if_neg (by omega)]
theorem RM_wB (R : RM A m S σ μ) (i : Nat) (v : Int64) : RM A m (sB S (A 48) i v) σ (vp_updL μ i v) := by
  obtain ⟨r1, r2, r3, r4, r5, r6⟩ := R
  refine ⟨r1, r2, r3, r4, r5, ?_⟩
  show va_up (gB S) (A 48) (vp_updL (gB S (A 48)) i v) (A 48) = vp_updL μ i v
  rw [r6]; simp [va_up]
theorem RM_uA (R : RM A m S σ μ) {f : Nat} (h : aM f = true) (h8 : f ≠ 48) {i : Nat} {v : Int32} {Q : PT → Prop} (k : ∀ S', RM A m S' (up2 σ f i v) μ → Q S') : ∀ S', S' = sA S (A f) i v → Q S' := fun S' e => by subst e; exact k _ (RM_wA R h h8 i v)
theorem RM_uI (R : RM A m S σ μ) (f : Nat) (h : cM f = true) {F : Nat} (hF : F = 1000 + f) {v : Int32} {Q : PT → Prop} (k : ∀ S', RM A m S' (up2 σ f 0 v) μ → Q S') : ∀ S', S' = sI S F m v → Q S' := fun S' e => by subst e; subst hF; exact k _ (RM_wI R h v)
theorem RM_uB (R : RM A m S σ μ) {i : Nat} {v : Int64} {Q : PT → Prop} (k : ∀ S', RM A m S' σ (vp_updL μ i v) → Q S') : ∀ S', S' = sB S (A 48) i v → Q S' := fun S' e => by subst e; exact k _ (RM_wB R i v)
theorem up2_s {α : Type} (f : Nat → Nat → α) (i a : Nat) (v : α) : up2 f i a v i a = v := by simp [up2]
theorem up2_f {α : Type} (f : Nat → Nat → α) {i j : Nat} (a b : Nat) (v : α) (h : j ≠ i) : up2 f i a v j b = f j b := by simp [up2, h]
theorem up2_i {α : Type} (f : Nat → Nat → α) {i j a b : Nat} (v : α) (h : b ≠ a) : up2 f i a v j b = f j b := by simp [up2, h]
end RMs
theorem RM_all {A : Nat → Nat} {m : Nat} {S : PT} {σ : SG} {μ : MU} (R : RM A m S σ μ) :
  gK S m = 10 ∧ gP S 1002 m = some (A 2) ∧ gK S (A 2) = 12 ∧ gN S (A 2) = 6 ∧ gA S (A 2) = σ 2 ∧ gP S 1003 m = some (A 3) ∧ gK S (A 3) = 12 ∧ gN S (A 3) = 6 ∧ gA S (A 3) = σ 3 ∧ gP S 1004 m = some (A 4) ∧ gK S (A 4) = 12 ∧ gN S (A 4) = 6 ∧ gA S (A 4) = σ 4 ∧ gP S 1005 m = some (A 5) ∧ gK S (A 5) = 12 ∧ gN S (A 5) = 6 ∧ gA S (A 5) = σ 5 ∧ gP S 1006 m = some (A 6) ∧ gK S (A 6) = 12 ∧ gN S (A 6) = 6 ∧ gA S (A 6) = σ 6 ∧ gP S 1007 m = some (A 7) ∧ gK S (A 7) = 12 ∧ gN S (A 7) = 6 ∧ gA S (A 7) = σ 7 ∧ gP S 1008 m = some (A 8) ∧ gK S (A 8) = 12 ∧ gN S (A 8) = 6 ∧ gA S (A 8) = σ 8 ∧ gP S 1009 m = some (A 9) ∧ gK S (A 9) = 12 ∧ gN S (A 9) = 6 ∧ gA S (A 9) = σ 9 ∧ gP S 1010 m = some (A 10) ∧ gK S (A 10) = 12 ∧ gN S (A 10) = 6 ∧ gA S (A 10) = σ 10 ∧ gP S 1011 m = some (A 11) ∧ gK S (A 11) = 12 ∧ gN S (A 11) = 6 ∧ gA S (A 11) = σ 11 ∧ gP S 1012 m = some (A 12) ∧ gK S (A 12) = 14 ∧ gN S (A 12) = 240 ∧ gA S (A 12) = σ 12 ∧ gP S 1013 m = some (A 13) ∧ gK S (A 13) = 12 ∧ gN S (A 13) = 240 ∧ gA S (A 13) = σ 13 ∧ gP S 1015 m = some (A 15) ∧ gK S (A 15) = 12 ∧ gN S (A 15) = 30 ∧ gA S (A 15) = σ 15 ∧ gP S 1016 m = some (A 16) ∧ gK S (A 16) = 12 ∧ gN S (A 16) = 30 ∧ gA S (A 16) = σ 16 ∧ gP S 1017 m = some (A 17) ∧ gK S (A 17) = 12 ∧ gN S (A 17) = 30 ∧ gA S (A 17) = σ 17 ∧ gP S 1018 m = some (A 18) ∧ gK S (A 18) = 12 ∧ gN S (A 18) = 30 ∧ gA S (A 18) = σ 18 ∧ gP S 1019 m = some (A 19) ∧ gK S (A 19) = 12 ∧ gN S (A 19) = 30 ∧ gA S (A 19) = σ 19 ∧ gP S 1020 m = some (A 20) ∧ gK S (A 20) = 14 ∧ gN S (A 20) = 30 ∧ gA S (A 20) = σ 20 ∧ gP S 1021 m = some (A 21) ∧ gK S (A 21) = 12 ∧ gN S (A 21) = 30 ∧ gA S (A 21) = σ 21 ∧ gP S 1022 m = some (A 22) ∧ gK S (A 22) = 12 ∧ gN S (A 22) = 30 ∧ gA S (A 22) = σ 22 ∧ gP S 1024 m = some (A 24) ∧ gK S (A 24) = 12 ∧ gN S (A 24) = 24 ∧ gA S (A 24) = σ 24 ∧ gP S 1025 m = some (A 25) ∧ gK S (A 25) = 12 ∧ gN S (A 25) = 24 ∧ gA S (A 25) = σ 25 ∧ gP S 1026 m = some (A 26) ∧ gK S (A 26) = 12 ∧ gN S (A 26) = 24 ∧ gA S (A 26) = σ 26 ∧ gP S 1027 m = some (A 27) ∧ gK S (A 27) = 12 ∧ gN S (A 27) = 24 ∧ gA S (A 27) = σ 27 ∧ gP S 1028 m = some (A 28) ∧ gK S (A 28) = 12 ∧ gN S (A 28) = 24 ∧ gA S (A 28) = σ 28 ∧ gP S 1029 m = some (A 29) ∧ gK S (A 29) = 12 ∧ gN S (A 29) = 24 ∧ gA S (A 29) = σ 29 ∧ gP S 1030 m = some (A 30) ∧ gK S (A 30) = 12 ∧ gN S (A 30) = 24 ∧ gA S (A 30) = σ 30 ∧ gP S 1031 m = some (A 31) ∧ gK S (A 31) = 12 ∧ gN S (A 31) = 24 ∧ gA S (A 31) = σ 31 ∧ gP S 1032 m = some (A 32) ∧ gK S (A 32) = 12 ∧ gN S (A 32) = 24 ∧ gA S (A 32) = σ 32 ∧ gP S 1033 m = some (A 33) ∧ gK S (A 33) = 12 ∧ gN S (A 33) = 24 ∧ gA S (A 33) = σ 33 ∧ gP S 1034 m = some (A 34) ∧ gK S (A 34) = 12 ∧ gN S (A 34) = 24 ∧ gA S (A 34) = σ 34 ∧ gP S 1035 m = some (A 35) ∧ gK S (A 35) = 12 ∧ gN S (A 35) = 24 ∧ gA S (A 35) = σ 35 ∧ gP S 1036 m = some (A 36) ∧ gK S (A 36) = 12 ∧ gN S (A 36) = 24 ∧ gA S (A 36) = σ 36 ∧ gP S 1037 m = some (A 37) ∧ gK S (A 37) = 14 ∧ gN S (A 37) = 24 ∧ gA S (A 37) = σ 37 ∧ gP S 1038 m = some (A 38) ∧ gK S (A 38) = 14 ∧ gN S (A 38) = 24 ∧ gA S (A 38) = σ 38 ∧ gP S 1039 m = some (A 39) ∧ gK S (A 39) = 14 ∧ gN S (A 39) = 576 ∧ gA S (A 39) = σ 39 ∧ gP S 1041 m = some (A 41) ∧ gK S (A 41) = 12 ∧ gN S (A 41) = 1024 ∧ gA S (A 41) = σ 41 ∧ gP S 1042 m = some (A 42) ∧ gK S (A 42) = 12 ∧ gN S (A 42) = 1024 ∧ gA S (A 42) = σ 42 ∧ gP S 1043 m = some (A 43) ∧ gK S (A 43) = 12 ∧ gN S (A 43) = 1024 ∧ gA S (A 43) = σ 43 ∧ gP S 1044 m = some (A 44) ∧ gK S (A 44) = 12 ∧ gN S (A 44) = 1024 ∧ gA S (A 44) = σ 44 ∧ gP S 1045 m = some (A 45) ∧ gK S (A 45) = 14 ∧ gN S (A 45) = 1024 ∧ gA S (A 45) = σ 45 ∧ gP S 1046 m = some (A 46) ∧ gK S (A 46) = 12 ∧ gN S (A 46) = 5 ∧ gA S (A 46) = σ 46 ∧ gP S 1047 m = some (A 47) ∧ gK S (A 47) = 12 ∧ gN S (A 47) = 5 ∧ gA S (A 47) = σ 47 ∧ gP S 1048 m = some (A 48) ∧ gK S (A 48) = 13 ∧ gN S (A 48) = 6 ∧ gI S 1000 m = σ 0 0 ∧ gI S 1001 m = σ 1 0 ∧ gI S 1014 m = σ 14 0 ∧ gI S 1023 m = σ 23 0 ∧ gI S 1040 m = σ 40 0 ∧ gI S 1049 m = σ 49 0 ∧ gB S (A 48) = μ :=
  ⟨RM_K R, RM_P2 R, RM_k2 R, RM_n2 R, RM_a2 R, RM_P3 R, RM_k3 R, RM_n3 R, RM_a3 R, RM_P4 R, RM_k4 R, RM_n4 R, RM_a4 R, RM_P5 R, RM_k5 R, RM_n5 R, RM_a5 R, RM_P6 R, RM_k6 R, RM_n6 R, RM_a6 R, RM_P7 R, RM_k7 R, RM_n7 R, RM_a7 R, RM_P8 R, RM_k8 R, RM_n8 R, RM_a8 R, RM_P9 R, RM_k9 R, RM_n9 R, RM_a9 R, RM_P10 R, RM_k10 R, RM_n10 R, RM_a10 R, RM_P11 R, RM_k11 R, RM_n11 R, RM_a11 R, RM_P12 R, RM_k12 R, RM_n12 R, RM_a12 R, RM_P13 R, RM_k13 R, RM_n13 R, RM_a13 R, RM_P15 R, RM_k15 R, RM_n15 R, RM_a15 R, RM_P16 R, RM_k16 R, RM_n16 R, RM_a16 R, RM_P17 R, RM_k17 R, RM_n17 R, RM_a17 R, RM_P18 R, RM_k18 R, RM_n18 R, RM_a18 R, RM_P19 R, RM_k19 R, RM_n19 R, RM_a19 R, RM_P20 R, RM_k20 R, RM_n20 R, RM_a20 R, RM_P21 R, RM_k21 R, RM_n21 R, RM_a21 R, RM_P22 R, RM_k22 R, RM_n22 R, RM_a22 R, RM_P24 R, RM_k24 R, RM_n24 R, RM_a24 R, RM_P25 R, RM_k25 R, RM_n25 R, RM_a25 R, RM_P26 R, RM_k26 R, RM_n26 R, RM_a26 R, RM_P27 R, RM_k27 R, RM_n27 R, RM_a27 R, RM_P28 R, RM_k28 R, RM_n28 R, RM_a28 R, RM_P29 R, RM_k29 R, RM_n29 R, RM_a29 R, RM_P30 R, RM_k30 R, RM_n30 R, RM_a30 R, RM_P31 R, RM_k31 R, RM_n31 R, RM_a31 R, RM_P32 R, RM_k32 R, RM_n32 R, RM_a32 R, RM_P33 R, RM_k33 R, RM_n33 R, RM_a33 R, RM_P34 R, RM_k34 R, RM_n34 R, RM_a34 R, RM_P35 R, RM_k35 R, RM_n35 R, RM_a35 R, RM_P36 R, RM_k36 R, RM_n36 R, RM_a36 R, RM_P37 R, RM_k37 R, RM_n37 R, RM_a37 R, RM_P38 R, RM_k38 R, RM_n38 R, RM_a38 R, RM_P39 R, RM_k39 R, RM_n39 R, RM_a39 R, RM_P41 R, RM_k41 R, RM_n41 R, RM_a41 R, RM_P42 R, RM_k42 R, RM_n42 R, RM_a42 R, RM_P43 R, RM_k43 R, RM_n43 R, RM_a43 R, RM_P44 R, RM_k44 R, RM_n44 R, RM_a44 R, RM_P45 R, RM_k45 R, RM_n45 R, RM_a45 R, RM_P46 R, RM_k46 R, RM_n46 R, RM_a46 R, RM_P47 R, RM_k47 R, RM_n47 R, RM_a47 R, RM_P48 R, RM_k48 R, RM_n48 R, RM_i0 R, RM_i1 R, RM_i14 R, RM_i23 R, RM_i40 R, RM_i49 R, RM_b R⟩
