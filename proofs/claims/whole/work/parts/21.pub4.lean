/-! the calls on digging -/
def z_of (σ : SG) (x y : Int32) : Prop := (0 ≤ x ∧ x ≤ σ 23 0 - 1) ∧ σ 26 x.toNatClampNeg ≤ y ∧ y ≤ σ 27 x.toNatClampNeg
def z_off (σ : SG) (k q : Nat) (y : Int32) (nT : Nat) : Prop := ¬ σ 33 k = 3 ∨ ¬ σ 37 k = 0 ∨ (¬ σ 34 k &&& 1 = 0 ∧ z_busy σ) ∨ ¬ σ 13 q = -1 ∨ (σ 12 q = 0 ∧ aN (fun t => z_susB σ t (σ 25 k) y) nT)
def z_hit (σ : SG) (k : Nat) (y : Int32) (t : Nat) : Prop := z_lies σ t (σ 25 k) y ∧ σ 19 t ≤ σ 28 k
noncomputable def z_smu (σ : SG) (μ : MU) (k : Nat) (y : Int32) : Nat → MU
  | 0 => μ
  | n + 1 => iT (z_hit σ k y n) (z_pay (z_smu σ μ k y n) (σ 24 k).toNatClampNeg (σ 15 n).toNatClampNeg 1000) (z_smu σ μ k y n)
/-- the place of a metre -/
def z_at (σ : SG) (k : Nat) (y : Int32) : Nat := 40 * (σ 25 k).toNatClampNeg + y.toNatClampNeg
theorem of_in {σ : SG} (B : IB σ) {x y : Int32} (h : z_of σ x y) : ∃ k s b : Nat, x = nI k ∧ y = nI b ∧ k < 24 ∧ b < 40 ∧ σ 25 k = nI s ∧ s < 6 ∧ z_at σ k y = 40 * s + b := by
  obtain ⟨k, hk, rfl, hk2⟩ := vin_ex (wk_in B h.1)
  have h2 := h.2
  rw [qn_nat hk2, ile, ile] at h2
  have b1 := B 26 k
  have b2 := B 27 k
  simp only [bl, bh] at b1 b2
  have a2 := Ihi y
  have : ∃ b : Nat, y = nI b ∧ b < 40 := by
    refine ⟨y.toInt.toNat, ?_, by simp at b1 b2; omega⟩
    rw [ieq, nI_toInt (by omega)]
    simp at b1; omega
  obtain ⟨b, rfl, hb⟩ := this
  obtain ⟨s, es, hs, hs2⟩ := IB_nI B 25 k rfl
  have hs : (s : Int) ≤ 5 := hs
  refine ⟨k, s, b, rfl, rfl, hk, hb, es, by omega, ?_⟩
  unfold z_at
  rw [es, qn_nat hs2, qn_nat (by omega)]
theorem up2_id (σ : SG) (f i : Nat) (v : Int32) : up2 (up2 σ f i v) f i (σ f i) = σ := by
  funext g j
  unfold up2
  by_cases e : g = f ∧ j = i
  · rw [if_pos e, e.1, e.2]
  · rw [if_neg e, if_neg e]
theorem IB_31 {σ : SG} (B : IB σ) (k : Nat) (t : Int32) : IB (up2 σ 31 k t) := IB_up B 31 k (Ilo t) (by have := Ihi t; simp only [bh]; omega)
section Q
variable {A : Nat → Nat} {m : Nat} {S : PT} {σ : SG} {μ : MU}
theorem r_isOf (R : RM A m S σ μ) (B : IB σ) (x y : Int32) (post : Int32 → PT → Prop) : w_X9_isOf m x y S post = post (bI (z_of σ x y)) S := by
  unfold w_X9_isOf w_X9_isOf_b31 w_X9_isOf_b32
  by_cases hv : 0 ≤ x ∧ x ≤ σ 23 0 - 1
  · have g1 := wk_in B hv
    simp only [RM_all R, Option.some.injEq, exists_eq_left', true_and, and_true, isIn_eq, bI_0, Classical.not_not, bo_0, bo_1, bI_bo, forall_eq, r_areWorks R, hv, g1, br2, br2']
    simp only [bI, z_of, hv]
    ((try simp only [iT]) <;> (repeat' split) <;> first | rfl | grind | (exfalso; simp_all; done) | (simp_all; done) | (simp only [ile, ilt] at *; (repeat' split) <;> first | rfl | (exfalso; omega) | (exfalso; simp_all; done)))
  · simp only [RM_all R, Option.some.injEq, exists_eq_left', true_and, and_true, isIn_eq, bI_0, Classical.not_not, bo_0, bo_1, bI_bo, forall_eq, r_areWorks R, hv, br2, br2']
    simp only [bI, z_of, hv]
    ((try simp only [iT]) <;> (repeat' split) <;> first | rfl | grind | (exfalso; simp_all; done) | (simp_all; done) | (simp only [ile, ilt] at *; (repeat' split) <;> first | rfl | (exfalso; omega) | (exfalso; simp_all; done)))
theorem r_isOff (R : RM A m S σ μ) (B : IB σ) {k s b nT : Nat} (hk : k < 24) (es : σ 25 k = nI s) (hs : s < 6) (hb : b < 40) (hn : σ 14 0 = nI nT) (hT : nT ≤ 30) (post : Int32 → PT → Prop) : w_X9_isOff m (nI k) (nI b) S post = post (bI (z_off σ k (40 * s + b) (nI b) nT)) S := by
  have g1 : vp_in (nI k) 24 := vin_nI hk (by decide)
  have g2 : (nI k).toNatClampNeg = k := qn_nat (by omega)
  have c1 : vp_in (nI (40 * s + b)) 240 := vin_nI (by omega) (by decide)
  have c2 : (nI (40 * s + b)).toNatClampNeg = 40 * s + b := qn_nat (by omega)
  unfold w_X9_isOff w_X9_isOff_b34 w_X9_isOff_b35 w_X9_isOff_b94 w_X9_isOff_b98 w_X9_isOff_b99
  simp only [RM_all R, Option.some.injEq, exists_eq_left', true_and, and_true, isIn_eq, bI_0, Classical.not_not, bo_0, bo_1, bI_bo, forall_eq, g1, g2, es, at_eq, c1, c2, r_isBusy R, r_isSuspect R hn hT, br2, br2']
  simp only [bI, z_off, es]
  ((try simp only [iT]) <;> (repeat' split) <;> first | rfl | grind | (exfalso; simp_all; done) | (simp_all; done) | (simp only [ile, ilt] at *; (repeat' split) <;> first | rfl | (exfalso; omega) | (exfalso; simp_all; done)))
theorem r_open_l (R0 : IB σ) {k s b nT q : Nat} (hk : k < 24) (es : σ 25 k = nI s) (hs : s < 6) (hb : b < 40) (hq : q < 240) (hn : σ 14 0 = nI nT) (hT : nT ≤ 30) (h0 : σ 12 q = 0) (post : Int32 → PT → Prop)
    (h : ∀ S', RM A m S' σ (z_smu σ μ k (nI b) nT) → w_X9_open_b137 m (nI k) (nI b) post S' (nI q) (nI (cN (z_hit σ k (nI b)) nT))) :
    ∀ (d i : Nat) (S : PT), RM A m S σ (z_smu σ μ k (nI b) i) → i + d = nT → w_X9_open_l57 m (nI k) (nI b) post (d + 1) S (nI q) (nI (cN (z_hit σ k (nI b)) i)) (nI i) := by
  have g1 : vp_in (nI k) 24 := vin_nI hk (by decide)
  have g2 : (nI k).toNatClampNeg = k := qn_nat (by omega)
  have c1 : vp_in (nI q) 240 := vin_nI hq (by decide)
  have c2 : (nI q).toNatClampNeg = q := qn_nat (by omega)
  intro d
  induction d with
  | zero =>
    intro i S R hi
    have e : i = nT := by omega
    subst e
    unfold w_X9_open_l57
    have c : nI i ≤ nI i := by rw [qn_le (by omega) (by omega)]; omega
    simp only [RM_all R, Option.some.injEq, exists_eq_left', true_and, and_true, isIn_eq, bI_0, Classical.not_not, bo_0, bo_1, bI_bo, up2_s, up2_f, ne_eq, Nat.reduceEqDiff, not_false_eq_true, hn, c]
    exact ⟨fun _ => h S R, fun n => absurd trivial n⟩
  | succ d ih =>
    intro i S R hi
    unfold w_X9_open_l57
    have c : ¬ nI nT ≤ nI i := by rw [qn_le (by omega) (by omega)]; omega
    have d1 : vp_in (nI i) 30 := vin_nI (by omega) (by decide)
    have d2 : (nI i).toNatClampNeg = i := qn_nat (by omega)
    unfold w_X9_open_b131
    simp only [RM_all R, Option.some.injEq, exists_eq_left', true_and, and_true, isIn_eq, bI_0, Classical.not_not, bo_0, bo_1, bI_bo, up2_s, up2_f, ne_eq, Nat.reduceEqDiff, not_false_eq_true, hn, c, c1, c2, g1, g2, h0, d1, d2, r_lies R (show i < 30 by omega), qn_s]
    refine ⟨fun n => n.elim, fun _ => ⟨fun n => absurd trivial n, fun _ => ⟨fun hl => ?_, fun hl => ⟨fun hd => ?_, fun hd => ?_⟩⟩⟩⟩
    · have hh : ¬ z_hit σ k (nI b) i := fun h => hl h.1
      have := ih (i + 1) S (by rw [z_smu, iT_F hh]; exact R) (by omega)
      rw [cN_s, iT_F hh] at this
      exact this
    · have hh : ¬ z_hit σ k (nI b) i := fun h => by have := h.2; rw [← not_lt32] at this; exact this hd
      have := ih (i + 1) S (by rw [z_smu, iT_F hh]; exact R) (by omega)
      rw [cN_s, iT_F hh] at this
      exact this
    · have hh : z_hit σ k (nI b) i := ⟨hl, by rw [← not_lt32]; exact hd⟩
      refine r_pays R (IB_vin R0 24 k 6 (by decide) (by decide)) (IB_vin R0 15 i 6 (by decide) (by decide)) 1000 (fun S1 R1 => ?_)
      have := ih (i + 1) S1 (by rw [z_smu, iT_T hh]; exact R1) (by omega)
      rw [cN_s, iT_T hh] at this
      exact this
noncomputable def q_open (σ : SG) (x y : Int32) (nT : Nat) : Int32 := iT (¬ z_of σ x y) 1 (iT (z_off σ x.toNatClampNeg (z_at σ x.toNatClampNeg y) y nT) 2 0)
noncomputable def z_struck (σ : SG) (k : Nat) (y : Int32) (nT : Nat) : Int32 := iT (σ 12 (z_at σ k y) = 0) (nI (cN (z_hit σ k y) nT)) 0
noncomputable def u_open (σ : SG) (x y : Int32) (nT : Nat) : SG := up2 (up2 (up2 (up2 σ 49 0 0) 36 x.toNatClampNeg (σ 36 x.toNatClampNeg + z_struck σ x.toNatClampNeg y nT)) 12 (z_at σ x.toNatClampNeg y) 1) 13 (z_at σ x.toNatClampNeg y) x
noncomputable def m_open (σ : SG) (μ : MU) (x y : Int32) (nT : Nat) : MU := iT (σ 12 (z_at σ x.toNatClampNeg y) = 0) (z_smu σ μ x.toNatClampNeg y nT) μ
theorem z_hit_49 (σ : SG) (t : Int32) (k : Nat) (y : Int32) : z_hit (up2 σ 49 0 t) k y = z_hit σ k y := by
  funext i; simp only [z_hit, z_lies, up2_f, ne_eq, Nat.reduceEqDiff, not_false_eq_true]
theorem z_smu_49 (σ : SG) (t : Int32) (μ : MU) (k : Nat) (y : Int32) : ∀ n, z_smu (up2 σ 49 0 t) μ k y n = z_smu σ μ k y n
  | 0 => rfl
  | n + 1 => by
    rw [z_smu, z_smu, z_smu_49 σ t μ k y n, z_hit_49]
    simp only [up2_f, ne_eq, Nat.reduceEqDiff, not_false_eq_true]
theorem r_open (R : RM A m S σ μ) (B : IB σ) {nT : Nat} (hn : σ 14 0 = nI nT) (hT : nT ≤ 30) (x y : Int32) (post : Int32 → PT → Prop)
    (hx : ∀ S', ¬ q_open σ x y nT = 0 → RM A m S' (up2 σ 49 0 (q_open σ x y nT)) μ → post 0 S')
    (h : ∀ S', q_open σ x y nT = 0 → RM A m S' (u_open σ x y nT) (m_open σ μ x y nT) → post (z_struck σ x.toNatClampNeg y nT) S') : w_X9_open m x y S post := by
  have e : w_X9_open m x y S post = w_X9_open_b30 m x y post S (some m) (q_open σ x y nT) := by
    unfold w_X9_open q_open
    by_cases hv : z_of σ x y
    · obtain ⟨k, s, b, rfl, rfl, hk, hb, es, hs, ea⟩ := of_in B hv
      have g2 : (nI k).toNatClampNeg = k := qn_nat (by omega)
      simp only [RM_all R, Option.some.injEq, exists_eq_left', true_and, and_true, isIn_eq, bI_0, Classical.not_not, bo_0, bo_1, bI_bo, forall_eq, r_isOf R B, r_isOff R B hk es hs hb hn hT, hv, g2, ea, br2, br2']
      ((try simp only [iT]) <;> (repeat' split) <;> first | rfl | grind | (exfalso; simp_all; done) | (simp_all; done) | (simp only [ile, ilt] at *; (repeat' split) <;> first | rfl | (exfalso; omega) | (exfalso; simp_all; done)))
    · simp only [RM_all R, Option.some.injEq, exists_eq_left', true_and, and_true, isIn_eq, bI_0, Classical.not_not, bo_0, bo_1, bI_bo, forall_eq, r_isOf R B, hv, br2, br2']
      ((try simp only [iT]) <;> (repeat' split) <;> first | rfl | grind | (exfalso; simp_all; done) | (simp_all; done) | (simp only [ile, ilt] at *; (repeat' split) <;> first | rfl | (exfalso; omega) | (exfalso; simp_all; done)))
  rw [e]
  generalize hq : q_open σ x y nT = t at *
  unfold w_X9_open_b30
  simp only [RM_all R, Option.some.injEq, exists_eq_left', true_and, and_true, isIn_eq, bI_0, Classical.not_not, bo_0, bo_1, bI_bo, up2_s, up2_f, ne_eq, Nat.reduceEqDiff, not_false_eq_true]
  refine r_goes R _ (fun S1 R1 => ⟨fun ht => ?_, fun ht => hx S1 (by rw [bI_0] at ht; exact ht) R1⟩)
  rw [bI_0, Classical.not_not] at ht
  subst ht
  obtain ⟨h1, -⟩ := q1 (by decide) hq
  rw [Classical.not_not] at h1
  obtain ⟨k, s, b, rfl, rfl, hk, hb, es, hs, ea⟩ := of_in B h1
  have g1 : vp_in (nI k) 24 := vin_nI hk (by decide)
  have g2 : (nI k).toNatClampNeg = k := qn_nat (by omega)
  have c1 : vp_in (nI (40 * s + b)) 240 := vin_nI (by omega) (by decide)
  have c2 : (nI (40 * s + b)).toNatClampNeg = 40 * s + b := qn_nat (by omega)
  have h9 := h
  unfold u_open m_open z_struck at h9
  rw [g2, ea] at h9
  simp only [RM_all R1, Option.some.injEq, exists_eq_left', true_and, and_true, isIn_eq, bI_0, Classical.not_not, bo_0, bo_1, bI_bo, up2_s, up2_f, ne_eq, Nat.reduceEqDiff, not_false_eq_true, g1, g2, es, at_eq]
  have fin : ∀ (S2 : PT) (μ2 : MU) (v : Int32), RM A m S2 (up2 σ 49 0 0) μ2 → v = iT (σ 12 (40 * s + b) = 0) (nI (cN (z_hit σ k (nI b)) nT)) 0 → μ2 = iT (σ 12 (40 * s + b) = 0) (z_smu σ μ k (nI b) nT) μ → w_X9_open_b137 m (nI k) (nI b) post S2 (nI (40 * s + b)) v := by
    intro S2 μ2 v R2 hv hm
    unfold w_X9_open_b137
    simp only [RM_all R2, Option.some.injEq, exists_eq_left', true_and, and_true, isIn_eq, bI_0, Classical.not_not, bo_0, bo_1, bI_bo, up2_s, up2_f, ne_eq, Nat.reduceEqDiff, not_false_eq_true, g1, g2]
    refine RM_uA R2 rfl (by decide) (fun S3 R3 => ?_)
    simp only [RM_all R3, Option.some.injEq, exists_eq_left', true_and, and_true, isIn_eq, bI_0, Classical.not_not, bo_0, bo_1, bI_bo, up2_s, up2_f, ne_eq, Nat.reduceEqDiff, not_false_eq_true, c1, c2]
    refine RM_uA R3 rfl (by decide) (fun S4 R4 => ?_)
    simp only [RM_all R4, Option.some.injEq, exists_eq_left', true_and, and_true, isIn_eq, bI_0, Classical.not_not, bo_0, bo_1, bI_bo, up2_s, up2_f, ne_eq, Nat.reduceEqDiff, not_false_eq_true, c1, c2]
    refine RM_uA R4 rfl (by decide) (fun S5 R5 => ?_)
    rw [hv, hm] at R5
    have := h9 S5 rfl R5
    rw [hv]; exact this
  by_cases h0 : σ 12 (40 * s + b) = 0
  · refine ⟨nT + 1, ?_⟩
    have B1 := IB_49 B 0
    refine r_open_l (μ := μ) B1 hk (by simp only [up2_f, ne_eq, Nat.reduceEqDiff, not_false_eq_true]; exact es) hs hb (show 40 * s + b < 240 by omega) (by simp only [up2_f, ne_eq, Nat.reduceEqDiff, not_false_eq_true]; exact hn) hT (by simp only [up2_f, ne_eq, Nat.reduceEqDiff, not_false_eq_true]; exact h0) post (fun S2 R2 => ?_) nT 0 S1 R1 (by omega)
    rw [z_smu_49] at R2
    rw [z_hit_49]
    exact fin S2 _ _ R2 (by rw [iT_T h0]) (by rw [iT_T h0])
  · refine ⟨1, ?_⟩
    unfold w_X9_open_l57
    simp only [RM_all R1, Option.some.injEq, exists_eq_left', true_and, and_true, isIn_eq, bI_0, Classical.not_not, bo_0, bo_1, bI_bo, up2_s, up2_f, ne_eq, Nat.reduceEqDiff, not_false_eq_true, c1, c2, h0]
    have f1 := fin S1 μ 0 R1 (by rw [iT_F h0]) (by rw [iT_F h0])
    exact ⟨fun _ => f1, fun _ => ⟨fun _ => f1, fun n => n.elim⟩⟩
end Q
