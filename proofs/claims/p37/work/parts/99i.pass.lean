/-! hours that go by: money, queues -/
section PSS
variable {σ : SG} {μ μ0 : MU} {n : Nat → Nat} {h t : Nat}
theorem nI_cl {x : Int32} (h0 : 0 ≤ x.toInt) : x = nI x.toNatClampNeg := by
  have h1 := Ihi x
  have e : (x.toNatClampNeg : Int) = x.toInt := by
    show ((x.toInt.toNat : Nat) : Int) = x.toInt
    omega
  rw [ieq, nI_toInt (by omega), e]
def PM (μ0 μ : MU) (B : Nat) : Prop := LM μ B ∧ (μ0 5).toInt ≤ (μ 5).toInt
theorem PM_up {B B' : Nat} (hb : B ≤ B') (H : PM μ0 μ B) : PM μ0 μ B' := ⟨LM_up hb H.1, H.2⟩
theorem PM_pay {B : Nat} (H : PM μ0 μ B) (hB : B ≤ 50000000) {a : Nat} (ha : a < 5) {c : Int32} (h0 : 0 ≤ c.toInt) (h1 : c.toInt ≤ 2000) : PM μ0 (z_pay μ a 5 c) (B + 1) := by
  refine ⟨LM_pay H.1 (by omega) ha (by omega) h0 h1, ?_⟩
  have b5 := H.1.2.2 5 (by omega)
  have h2 := H.2
  rw [pay_at, iT_T rfl, iT_F (by omega), jadd, jof]
  omega
theorem w24 (B : IB σ) (k : Nat) : (σ 24 k).toNatClampNeg < 5 := by
  have z := (nf B 24 k rfl).2
  rw [show bh 24 = 4 from rfl] at z
  omega
theorem v4m (B : IB σ) (s : Nat) : ∃ g : Nat, 4 - σ 3 s = nI g ∧ g ≤ 4 := by
  obtain ⟨b1, b2⟩ := nf B 3 s rfl
  have b3 : ((σ 3 s).toNatClampNeg : Int) ≤ 3 := b2
  rw [b1]
  exact ⟨_, isub_nI (a := 4) (by omega) (by omega), by omega⟩
theorem fine_b (B : IB σ) (s : Nat) : 0 ≤ (500 * (4 - σ 3 s) : Int32).toInt ∧ (500 * (4 - σ 3 s) : Int32).toInt ≤ 2000 := by
  obtain ⟨g, e, hg⟩ := v4m B s
  have e2 : (500 : Int32) * nI g = nI (500 * g) := qn_mul 500 g
  rw [e, e2, nI_toInt (by omega)]
  omega
theorem PM_set {x : AS} {B : Nat} (b : IB x.1) (H : PM μ0 x.2 B) (hB : B ≤ 40000000) (nW : Nat) : ∀ i, i ≤ 1000 → PM μ0 (z_set x nW i).2 (B + i)
  | 0, _ => H
  | i + 1, hi => by
    have ih := PM_set b H hB nW i (by omega)
    have bi := z_set_B b nW i
    show PM μ0 (z_set1 (z_set x nW i) i nW).2 (B + (i + 1))
    generalize z_set x nW i = y at ih bi
    unfold z_set1
    refine iT_ind (fun y9 : AS => PM μ0 y9.2 (B + (i + 1))) (fun _ => iT_ind (fun y9 : AS => PM μ0 y9.2 (B + (i + 1))) (fun _ => ?_) (fun _ => PM_up (by omega) ih)) (fun _ => PM_up (by omega) ih)
    have c := z_cost_b bi i
    exact PM_pay ih (by omega) (w24 bi i) c.1 c.2
theorem PM_fin {B : Nat} (b : IB σ) (H : PM μ0 μ B) (hB : B ≤ 40000000) : ∀ i, i ≤ 1000 → PM μ0 (z_fin σ μ i) (B + i)
  | 0, _ => H
  | i + 1, hi => by
    have ih := PM_fin b H hB i (by omega)
    unfold z_fin
    have c := fine_b b (σ 25 i).toNatClampNeg
    exact iT_ind (fun y9 : MU => PM μ0 y9 (B + (i + 1))) (fun _ => PM_pay ih (by omega) (w24 b i) c.1 c.2) (fun _ => PM_up (by omega) ih)
theorem PM_ren {B : Nat} (b : IB σ) (H : PM μ0 μ B) (hB : B ≤ 40000000) (nW : Nat) : ∀ i, i ≤ 1000 → PM μ0 (z_ren σ μ nW i) (B + 2 * i)
  | 0, _ => H
  | i + 1, hi => by
    have ih := PM_ren b H hB nW i (by omega)
    unfold z_ren
    have c := rent_b b i nW
    refine iT_ind (fun y9 : MU => PM μ0 y9 (B + 2 * (i + 1))) (fun _ => ?_) (fun _ => PM_up (by omega) ih)
    have p1 := PM_pay ih (by omega) (w24 b i) c.1 c.2
    exact PM_up (by omega) (PM_pay (c := iT (σ 34 i &&& 2 = 0) 0 200) p1 (by omega) (w24 b i) (iT_ind (fun y : Int32 => 0 ≤ y.toInt) (fun _ => by decide) (fun _ => by decide)) (iT_ind (fun y : Int32 => y.toInt ≤ 2000) (fun _ => by decide) (fun _ => by decide)))
theorem PM_hour {x : AS} {B : Nat} (b : IB x.1) (hh : (x.1 0 0).toInt < 9999) (H : PM μ0 x.2 B) (hB : B ≤ 30000000) (nS : Nat) {nW : Nat} (hW : nW ≤ 24) : PM μ0 (z_hour x nS nW).2 (B + 96) := by
  have hb0 : (0 : Int) ≤ (x.1 0 0).toInt := (b 0 0).1
  have B1 : IB (up2 x.1 0 0 (x.1 0 0 + 1)) := by
    refine IB_up b 0 0 ?_ ?_
    · show (0 : Int) ≤ _
      rw [tadd, tl_1]; omega
    · show _ ≤ (9999 : Int)
      rw [tadd, tl_1]; omega
  have key : ∀ y : AS, IB y.1 → PM μ0 y.2 (B + 48) → PM μ0 (z_ends y nS nW).2 (B + 96) := fun y by9 hy => by
    show PM μ0 (iT (z_busy y.1) (z_ren y.1 y.2 nW nW) y.2) (B + 96)
    exact iT_ind (fun y9 : MU => PM μ0 y9 (B + 96)) (fun _ => PM_up (by omega) (PM_ren by9 hy (by omega) nW nW (by omega))) (fun _ => PM_up (by omega) hy)
  unfold z_hour
  refine key _ ?_ ?_
  · exact iT_ind (fun y : AS => IB y.1) (fun _ => z_set_B (x := (up2 x.1 0 0 (x.1 0 0 + 1), x.2)) B1 nW nW) (fun _ => B1)
  · refine iT_ind (fun y : AS => PM μ0 y.2 (B + 48)) (fun _ => ?_) (fun _ => PM_up (by omega) H)
    have s1 := PM_set (x := (up2 x.1 0 0 (x.1 0 0 + 1), x.2)) B1 H (by omega) nW nW (by omega)
    exact PM_up (by omega) (PM_fin (z_set_B (x := (up2 x.1 0 0 (x.1 0 0 + 1), x.2)) B1 nW nW) s1 (by omega) nW (by omega))
theorem set_33 (x : AS) (nW k : Nat) : ∀ i, ((z_set x nW i).1 33 k = 3 ↔ x.1 33 k = 3)
  | 0 => Iff.rfl
  | i + 1 => by
    refine Iff.trans ?_ (set_33 x nW k i)
    show (z_set1 (z_set x nW i) i nW).1 33 k = 3 ↔ _
    generalize z_set x nW i = y
    unfold z_set1
    refine iT_ind (fun y9 : AS => y9.1 33 k = 3 ↔ y.1 33 k = 3) (fun h0 => iT_ind (fun y9 : AS => y9.1 33 k = 3 ↔ y.1 33 k = 3) (fun _ => ?_) (fun _ => ?_)) (fun _ => Iff.rfl)
    · show up2 (up2 y.1 33 i 1) 34 i 0 33 k = 3 ↔ _
      rw [up2_f _ _ _ _ (by decide)]
      by_cases e : k = i
      · rw [e, up2_s, h0.1]; exact ⟨fun z => absurd z (by decide), fun z => absurd z (by decide)⟩
      · rw [up2_i _ _ e]
    · show up2 y.1 33 i 2 33 k = 3 ↔ _
      by_cases e : k = i
      · rw [e, up2_s, h0.1]; exact ⟨fun z => absurd z (by decide), fun z => absurd z (by decide)⟩
      · rw [up2_i _ _ e]
theorem hour_33 (x : AS) (nS nW k : Nat) : (z_hour x nS nW).1 33 k = 3 ↔ x.1 33 k = 3 := by
  unfold z_hour
  rw [z_ends_f _ _ _ _ (by decide) (by decide)]
  refine iT_ind (fun y9 : AS => y9.1 33 k = 3 ↔ x.1 33 k = 3) (fun _ => ?_) (fun _ => ?_)
  · show (z_set (up2 x.1 0 0 (x.1 0 0 + 1), x.2) nW nW).1 33 k = 3 ↔ _
    rw [set_33]
    show up2 x.1 0 0 (x.1 0 0 + 1) 33 k = 3 ↔ _
    rw [up2_f _ _ _ _ (by decide)]
  · show up2 x.1 0 0 (x.1 0 0 + 1) 33 k = 3 ↔ _
    rw [up2_f _ _ _ _ (by decide)]
/-- what can come round into a street -/
noncomputable def ar (σ : SG) (k : Nat) : Nat → Nat
  | 0 => 0
  | j + 1 => ar σ k j + iT (σ 5 j = nI k) ((σ 4 j).toNatClampNeg / 2) 0
theorem ar_c {σ' : SG} (h4 : ∀ j, σ' 4 j = σ 4 j) (h5 : ∀ j, σ' 5 j = σ 5 j) (k : Nat) : ∀ j, ar σ' k j = ar σ k j
  | 0 => rfl
  | j + 1 => by unfold ar; rw [ar_c h4 h5 k j, h4, h5]
theorem v4b (B : IB σ) (s : Nat) : σ 4 s = nI (σ 4 s).toNatClampNeg ∧ (σ 4 s).toNatClampNeg ≤ 999 := by
  obtain ⟨b1, b2⟩ := nf B 4 s rfl
  have b3 : ((σ 4 s).toNatClampNeg : Int) ≤ 999 := b2
  exact ⟨b1, by omega⟩
theorem ar_le (B : IB σ) (k : Nat) : ∀ j, ar σ k j ≤ 499 * j
  | 0 => Nat.le_refl _
  | j + 1 => by
    have ih := ar_le B k j
    have b := (v4b B j).2
    unfold ar
    refine iT_ind (fun y : Nat => ar σ k j + y ≤ 499 * (j + 1)) (fun _ => ?_) (fun _ => ?_) <;> omega
theorem w0_11 (s : Nat) : ∀ i, z_w0 σ i 11 s = iT (s < i) 0 (σ 11 s)
  | 0 => by rw [iT_F (by omega)]; rfl
  | i + 1 => by
    show up2 (z_w0 σ i) 11 i 0 11 s = _
    by_cases e : s = i
    · rw [e, up2_s, iT_T (by omega)]
    · rw [up2_i _ _ e, w0_11 s i]
      by_cases z : s < i
      · rw [iT_T z, iT_T (by omega)]
      · rw [iT_F z, iT_F (by omega)]
theorem w1_11 (B : IB σ) {nS : Nat} (hS : nS ≤ 6) (dv : ∀ j, j < nS → σ 5 j = -1 ∨ (σ 5 j).toNatClampNeg < j) (nW : Nat) {s : Nat} (hs : s < nS) : ∀ i, i ≤ nS → 0 ≤ (z_w1 (z_w0 σ nS) nW i 11 s).toInt ∧ (z_w1 (z_w0 σ nS) nW i 11 s).toInt ≤ ((iT (s < i) (σ 4 s).toNatClampNeg 0 + ar σ s i : Nat) : Int)
  | 0, _ => by
    have e : z_w1 (z_w0 σ nS) nW 0 11 s = 0 := by
      show z_w0 σ nS 11 s = 0
      rw [w0_11, iT_T hs]
    rw [e, I0]
    exact ⟨Int.le_refl _, by omega⟩
  | i + 1, hi => by
    obtain ⟨l1, l2⟩ := w1_11 B hS dv nW hs i (by omega)
    have al := ar_le B s i
    have b4 := v4b B i
    have b4s := v4b B s
    have f4 : z_w1 (z_w0 σ nS) nW i 4 i = σ 4 i := by rw [z_w1_f _ _ _ (by decide), z_w0_f _ _ (by decide)]
    have f5 : z_w1 (z_w0 σ nS) nW i 5 i = σ 5 i := by rw [z_w1_f _ _ _ (by decide), z_w0_f _ _ (by decide)]
    show 0 ≤ (z_w1b (z_w1 (z_w0 σ nS) nW i) i (z_half (z_w1 (z_w0 σ nS) nW i) i nW) 11 s).toInt ∧ (z_w1b (z_w1 (z_w0 σ nS) nW i) i (z_half (z_w1 (z_w0 σ nS) nW i) i nW) 11 s).toInt ≤ ((iT (s < i + 1) (σ 4 s).toNatClampNeg 0 + (ar σ s i + iT (σ 5 i = nI s) ((σ 4 i).toNatClampNeg / 2) 0) : Nat) : Int)
    have hhalf : (z_half (z_w1 (z_w0 σ nS) nW i) i nW = 0) ∨ (¬ σ 5 i = -1 ∧ z_half (z_w1 (z_w0 σ nS) nW i) i nW = nI ((σ 4 i).toNatClampNeg / 2)) := by
      unfold z_half
      rw [f4, f5]
      refine iT_ind (fun y : Int32 => y = 0 ∨ (¬ σ 5 i = -1 ∧ y = nI ((σ 4 i).toNatClampNeg / 2))) (fun z => Or.inr ⟨z.2, ?_⟩) (fun _ => Or.inl rfl)
      have e2 : nI (σ 4 i).toNatClampNeg / 2 = nI ((σ 4 i).toNatClampNeg / 2) := idiv_nI (b := 2) (by omega) (by omega) (by omega)
      rw [← e2, ← b4.1]
    have hge : ¬ σ 5 i = -1 → σ 5 i = nI (σ 5 i).toNatClampNeg := fun z => by
      have a := (B 5 i).1
      rw [show bl 5 = -1 from rfl] at a
      have z2 : ¬ (σ 5 i).toInt = -1 := fun z3 => z (by rw [ieq, z3, tl_m1])
      exact nI_cl (by omega)
    have hi5 := dv i (by omega)
    generalize z_half (z_w1 (z_w0 σ nS) nW i) i nW = hf at hhalf
    generalize hτ : z_w1 (z_w0 σ nS) nW i = τ at *
    have smono : (iT (s < i) (σ 4 s).toNatClampNeg 0 : Nat) ≤ iT (s < i + 1) (σ 4 s).toNatClampNeg 0 := by
      by_cases z : s < i
      · rw [iT_T z, iT_T (show s < i + 1 by omega)]; omega
      · rw [iT_F z]; omega
    have sg : (iT (s < i) (σ 4 s).toNatClampNeg 0 : Nat) ≤ (σ 4 s).toNatClampNeg := by
      by_cases z : s < i
      · rw [iT_T z]; exact Nat.le_refl _
      · rw [iT_F z]; omega
    rcases hhalf with e | ⟨h51, e⟩
    · subst e
      unfold z_w1b
      rw [iT_T (show (0 : Int32) ≤ 0 by decide)]
      unfold z_w1a
      by_cases z : s = i
      · subst z
        rw [up2_s, f4, tadd, tsub, I0, b4.1, nI_toInt (by omega), iT_T (show s < s + 1 by omega)]
        rw [iT_F (show ¬ s < s by omega)] at l2
        rw [← b4.1]
        omega
      · rw [up2_i _ _ z]; omega
    · subst e
      have e5 := hge h51
      have hlt : (σ 5 i).toNatClampNeg < i := by
        rcases hi5 with z | z
        · exact absurd z h51
        · exact z
      have hd2 : (σ 4 i).toNatClampNeg / 2 ≤ (σ 4 i).toNatClampNeg := Nat.div_le_self _ _
      have tn : (nI ((σ 4 i).toNatClampNeg / 2)).toInt = ((σ 4 i).toNatClampNeg / 2 : Nat) := nI_toInt (by omega)
      unfold z_w1b
      by_cases z0 : nI ((σ 4 i).toNatClampNeg / 2) ≤ 0
      · rw [iT_T z0]
        rw [ile, I0, tn] at z0
        unfold z_w1a
        by_cases z : s = i
        · subst z
          rw [up2_s, f4, tadd, tsub, tn]
          have b41 : (σ 4 s).toInt = ((σ 4 s).toNatClampNeg : Int) := by
            have := congrArg Int32.toInt b4.1
            rw [nI_toInt (by omega)] at this
            exact this
          rw [b41, iT_T (show s < s + 1 by omega)]
          rw [iT_F (show ¬ s < s by omega)] at l2
          omega
        · rw [up2_i _ _ z]; omega
      · rw [iT_F z0, f5]
        by_cases zz : s = (σ 5 i).toNatClampNeg
        · have hsi : ¬ s = i := by omega
          rw [← zz, up2_s]
          unfold z_w1a
          rw [up2_i _ _ hsi, tadd, tn]
          rw [← zz] at e5
          rw [iT_T e5]
          omega
        · rw [up2_i _ _ zz]
          unfold z_w1a
          by_cases z : s = i
          · subst z
            rw [up2_s, f4, tadd, tsub, tn]
            have b41 : (σ 4 s).toInt = ((σ 4 s).toNatClampNeg : Int) := by
              have := congrArg Int32.toInt b4.1
              rw [nI_toInt (by omega)] at this
              exact this
            rw [b41, iT_T (show s < s + 1 by omega)]
            rw [iT_F (show ¬ s < s by omega)] at l2
            omega
          · rw [up2_i _ _ z]; omega
theorem thr_b (B : IB σ) (s nW : Nat) : 0 ≤ (z_thr σ s nW).toInt ∧ (z_thr σ s nW).toInt ≤ 300 := by
  obtain ⟨b1, b2⟩ := nf B 3 s rfl
  have b3 : ((σ 3 s).toNatClampNeg : Int) ≤ 3 := b2
  unfold z_thr
  rw [b1]
  generalize (σ 3 s).toNatClampNeg = g at b3
  have e3 : (3 : Int32) - nI g = nI (3 - g) := isub_nI (a := 3) (by omega) (by omega)
  have e4 : (40 : Int32) * nI (3 - g) = nI (40 * (3 - g)) := qn_mul 40 _
  have e5 : (100 : Int32) + nI (40 * (3 - g)) = nI (100 + 40 * (3 - g)) := qn_add 100 _
  have e6 : nI (100 + 40 * (3 - g)) / 2 = nI ((100 + 40 * (3 - g)) / 2) := idiv_nI (b := 2) (by omega) (by omega) (by omega)
  rw [e3, e4, e5, e6]
  refine iT_ind (fun y : Int32 => 0 ≤ y.toInt ∧ y.toInt ≤ 300) (fun _ => ?_) (fun _ => ?_)
  · rw [nI_toInt (by omega)]; omega
  · rw [nI_toInt (by omega)]; omega
theorem w2_10 {τ : SG} (B : IB τ) (nW : Nat) {s : Nat} (h1 : 0 ≤ (τ 10 s).toInt) (h2 : (τ 10 s).toInt ≤ 100000000) (h3 : 0 ≤ (τ 11 s).toInt) (h4 : (τ 11 s).toInt ≤ 100000) : ∀ i, (i ≤ s ∧ z_w2 τ nW i 10 s = τ 10 s) ∨ (s < i ∧ 0 ≤ (z_w2 τ nW i 10 s).toInt ∧ (z_w2 τ nW i 10 s).toInt ≤ (τ 10 s).toInt + (τ 11 s).toInt)
  | 0 => Or.inl ⟨by omega, rfl⟩
  | i + 1 => by
    have ih := w2_10 B nW h1 h2 h3 h4 i
    have f11 : z_w2 τ nW i 11 i = τ 11 i := z_w2_f _ _ _ (by decide) i
    have tb := thr_b (z_w2_B B nW i) i nW
    by_cases z : s = i
    · subst z
      rcases ih with ⟨-, ih⟩ | ⟨z, -⟩
      · refine Or.inr ⟨by omega, ?_⟩
        show 0 ≤ (up2 (z_w2 τ nW s) 10 s _ 10 s).toInt ∧ (up2 (z_w2 τ nW s) 10 s _ 10 s).toInt ≤ _
        rw [up2_s, f11, ih]
        generalize z_thr (z_w2 τ nW s) s nW = th at tb
        have e9 : (τ 10 s + τ 11 s - th).toInt = (τ 10 s).toInt + (τ 11 s).toInt - th.toInt := by rw [tsub, tadd]; omega
        refine iT_ind (fun y : Int32 => 0 ≤ y.toInt ∧ y.toInt ≤ (τ 10 s).toInt + (τ 11 s).toInt) (fun z => ?_) (fun _ => ?_)
        · rw [ile, I0] at z
          omega
        · rw [I0]; omega
      · omega
    · have e : z_w2 τ nW (i + 1) 10 s = z_w2 τ nW i 10 s := up2_i _ _ z
      rw [e]
      rcases ih with ⟨z1, ih⟩ | ⟨z1, ih⟩
      · exact Or.inl ⟨by omega, ih⟩
      · exact Or.inr ⟨by omega, ih⟩
theorem waits_10 (B : IB σ) {nS : Nat} (hS : nS ≤ 6) (dv : ∀ j, j < nS → σ 5 j = -1 ∨ (σ 5 j).toNatClampNeg < j) (nW s : Nat) (h1 : 0 ≤ (σ 10 s).toInt) (h2 : (σ 10 s).toInt ≤ 100000000) : (s < nS → 0 ≤ (z_waits σ nS nW 10 s).toInt ∧ (z_waits σ nS nW 10 s).toInt ≤ (σ 10 s).toInt + ((σ 4 s).toNatClampNeg + ar σ s nS : Nat)) ∧ (nS ≤ s → z_waits σ nS nW 10 s = σ 10 s) := by
  have f10 : z_w1 (z_w0 σ nS) nW nS 10 s = σ 10 s := by rw [z_w1_f _ _ _ (by decide), z_w0_f _ _ (by decide)]
  have al := ar_le B s nS
  have b4 := v4b B s
  unfold z_waits
  refine ⟨fun hs => ?_, fun hs => ?_⟩
  · have w1 := w1_11 B hS dv nW hs nS (Nat.le_refl _)
    rw [iT_T hs] at w1
    rcases w2_10 (z_w1_B (z_w0_B B nS) nW nS) nW (s := s) (by rw [f10]; exact h1) (by rw [f10]; exact h2) w1.1 (by omega) nS with ⟨z, -⟩ | ⟨-, z1, z2⟩
    · omega
    · rw [f10] at z2
      exact ⟨z1, by omega⟩
  · have key : ∀ i, i ≤ nS → z_w2 (z_w1 (z_w0 σ nS) nW nS) nW i 10 s = z_w1 (z_w0 σ nS) nW nS 10 s := fun i => by
      induction i with
      | zero => intro _; rfl
      | succ i ih => intro hi; exact (up2_i _ _ (show s ≠ i by omega)).trans (ih (by omega))
    rw [key nS (Nat.le_refl _), f10]
end PSS
