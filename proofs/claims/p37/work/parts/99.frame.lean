/-! what a change leaves of all this -/
section FRM
variable {u9 v9 e0 m0 x o m s w : Nat} {S M : PT} {σ σ' : SG} {μ μ' : MU} {C cap t : Nat} {n : Nat → Nat} {h : Nat} {fm fs fw : Nat → Int32}
theorem up2_g {f g : Nat} (hfg : g ≠ f) (a : Nat) (v : Int32) : up2 σ f a v g = σ g := funext (fun j => up2_f _ _ _ _ hfg)
def lf (f : Nat) : Prop := f = 0 ∨ f = 10 ∨ f = 13 ∨ f = 25 ∨ f = 26 ∨ f = 27 ∨ f = 31 ∨ f = 33 ∨ f = 35 ∨ f = 36 ∨ f = 37 ∨ f = 40 ∨ f = 41 ∨ f = 42
theorem LI_c (hf : ∀ f, lf f → σ' f = σ f) (I : LI σ μ t) : LI σ' μ t := by
  unfold LI at *
  rw [hf 0 (by unfold lf; omega), hf 10 (by unfold lf; omega), hf 13 (by unfold lf; omega), hf 25 (by unfold lf; omega), hf 26 (by unfold lf; omega), hf 27 (by unfold lf; omega), hf 31 (by unfold lf; omega), hf 33 (by unfold lf; omega), hf 35 (by unfold lf; omega), hf 36 (by unfold lf; omega), hf 37 (by unfold lf; omega), hf 40 (by unfold lf; omega), hf 41 (by unfold lf; omega), hf 42 (by unfold lf; omega)]
  exact I
theorem LI_up (I : LI σ μ t) {t' : Nat} (ht : t ≤ t') : LI σ μ t' := by
  obtain ⟨h1, h2, h3, h4, h5, h6, h7⟩ := I
  refine ⟨h1, h2, h3, fun k hk => ?_, h5, LM_up (by omega) h6, by omega⟩
  have := h4 k hk
  omega
def la (f : Nat) : Prop := f = 0 ∨ f = 1 ∨ f = 2 ∨ f = 4 ∨ f = 5 ∨ f = 14 ∨ f = 23 ∨ f = 24 ∨ f = 25 ∨ f = 26 ∨ f = 27 ∨ f = 28
theorem LA_c (hf : ∀ f, la f → σ' f = σ f) (A : LA σ fm fs fw) : LA σ' fm fs fw := by
  unfold LA at *
  rw [hf 0 (by unfold la; omega), hf 1 (by unfold la; omega), hf 2 (by unfold la; omega), hf 4 (by unfold la; omega), hf 5 (by unfold la; omega), hf 14 (by unfold la; omega), hf 23 (by unfold la; omega), hf 24 (by unfold la; omega), hf 25 (by unfold la; omega), hf 26 (by unfold la; omega), hf 27 (by unfold la; omega), hf 28 (by unfold la; omega)]
  exact A
theorem LW_up (L : LW u9 v9 e0 x m s w S M σ μ C cap t) : LW u9 v9 e0 x m s w S M σ μ C cap (t + 1) := by
  obtain ⟨h1, h2, h3, h4, h5, h6, h7⟩ := L
  exact ⟨h1, h2, h3, h4, LI_up h5 (by omega), ⟨by omega, h6.2⟩, h7⟩
theorem MA_ov (H : MA M m s w fm fs fw) (S : PT) : (gK (ov S M) m = 12 ∧ gN (ov S M) m = 4 ∧ gA (ov S M) m = fm) ∧ (gK (ov S M) s = 12 ∧ gN (ov S M) s = 18 ∧ gA (ov S M) s = fs) ∧ (gK (ov S M) w = 12 ∧ gN (ov S M) w = 64 ∧ gA (ov S M) w = fw) := by
  obtain ⟨⟨a1, a2, a3⟩, ⟨b1, b2, b3⟩, ⟨c1, c2, c3⟩, -⟩ := H
  have a := ov_a a1 S
  have b := ov_a b1 S
  have c := ov_a c1 S
  exact ⟨⟨a.1, a.2.1.trans a2, a.2.2.trans a3⟩, ⟨b.1, b.2.1.trans b2, b.2.2.trans b3⟩, ⟨c.1, c.2.1.trans c2, c.2.2.trans c3⟩⟩
/-- the world anew, with the same rows -/
theorem LW_mk {S' : PT} {C' cap' : Nat} (L : LW u9 v9 e0 x m s w S M σ μ C cap t) (H : ST e0 x o S' σ' μ' C' cap') (hd : dis S' M) (A : LA σ' (gA M m) (gA M s) (gA M w)) (I : LI σ' μ' (t + 1)) (hC : C' ≤ 2 * (t + 1)) (hcap : cap' ≤ 262144) : LW u9 v9 e0 x m s w S' M σ' μ' C' cap' (t + 1) := ⟨⟨o, H⟩, hd, L.2.2.1, A, I, ⟨hC, by rw [← A.1.2.1, ← A.1.2.2.2, L.2.2.2.1.1.2.1, L.2.2.2.1.1.2.2.2]; exact L.2.2.2.2.2.1.2⟩, hcap⟩
/-- the world anew, with other rows -/
theorem LW_mk2 {S' M' : PT} {C' cap' : Nat} (H : ST e0 x o S' σ' μ' C' cap') (hd : dis S' M') (ma : MA M' m s w fm fs fw) (A : LA σ' fm fs fw) (I : LI σ' μ' t) (hC : C' ≤ 2 * t) (hg : u9 ≤ (σ' 1 0).toNatClampNeg ∧ v9 ≤ (σ' 23 0).toNatClampNeg) (hcap : cap' ≤ 262144) : LW u9 v9 e0 x m s w S' M' σ' μ' C' cap' t := by
  obtain ⟨⟨a1, a2, rfl⟩, ⟨b1, b2, rfl⟩, ⟨c1, c2, rfl⟩, d⟩ := ma
  exact ⟨⟨o, H⟩, hd, ⟨⟨a1, a2, rfl⟩, ⟨b1, b2, rfl⟩, ⟨c1, c2, rfl⟩, d⟩, A, I, ⟨hC, hg⟩, hcap⟩
theorem LW_mono {a9 b9 : Nat} (L : LW u9 v9 e0 x m s w S M σ μ C cap t) (h1 : a9 ≤ u9) (h2 : b9 ≤ v9) : LW a9 b9 e0 x m s w S M σ μ C cap t := ⟨L.1, L.2.1, L.2.2.1, L.2.2.2.1, L.2.2.2.2.1, ⟨L.2.2.2.2.2.1.1, Nat.le_trans h1 L.2.2.2.2.2.1.2.1, Nat.le_trans h2 L.2.2.2.2.2.1.2.2⟩, L.2.2.2.2.2.2⟩
theorem LW_gr {a9 b9 : Nat} (L : LW u9 v9 e0 x m s w S M σ μ C cap t) (h1 : a9 ≤ (σ 1 0).toNatClampNeg) (h2 : b9 ≤ (σ 23 0).toNatClampNeg) : LW a9 b9 e0 x m s w S M σ μ C cap t := ⟨L.1, L.2.1, L.2.2.1, L.2.2.2.1, L.2.2.2.2.1, ⟨L.2.2.2.2.2.1.1, h1, h2⟩, L.2.2.2.2.2.2⟩
theorem LA_gr (L : LW u9 v9 e0 x m s w S M σ μ C cap t) (A : LA σ' fm fs fw) (h1 : fm 1 = gA M m 1) (h3 : fm 3 = gA M m 3) : u9 ≤ (σ' 1 0).toNatClampNeg ∧ v9 ≤ (σ' 23 0).toNatClampNeg := by
  rw [← A.1.2.1, ← A.1.2.2.2, h1, h3, L.2.2.2.1.1.2.1, L.2.2.2.1.1.2.2.2]; exact L.2.2.2.2.2.1.2
theorem dis_of_sA {M' : PT} (hd : dis S M) (hk : ∀ b, gK M' b = gK M b) : dis S M' := fun b hb => hd b (by rw [← hk]; exact hb)
theorem upd_n (f : Nat → Int32) {a b : Nat} (v : Int32) (hab : b ≠ a) : upd f a v b = f b := upd_o f v hab
end FRM
