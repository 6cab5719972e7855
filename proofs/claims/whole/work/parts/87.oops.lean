/-! each call on both sides -/
def Z1 (q : Int32) : Prop := q = 0 ∨ q = 1
def Z2 (q : Int32) : Prop := q = 0 ∨ q = 1 ∨ q = 2
def Z3 (q : Int32) : Prop := q = 0 ∨ q = 1 ∨ q = 2 ∨ q = 3
theorem Z_iT {Z : Int32 → Prop} {P : Prop} {a b : Int32} (ha : Z a) (hb : Z b) : Z (iT P a b) := iT_ind Z (fun _ => ha) (fun _ => hb)
theorem nf_nI {σ : SG} (B : IB σ) (f : Nat) (h0 : bl f = 0) : σ f 0 = nI (σ f 0).toNatClampNeg ∧ ((σ f 0).toNatClampNeg : Int) ≤ bh f := by
  obtain ⟨k, e, h1, h2⟩ := IB_nI B f 0 h0
  rw [e, qn_nat h2]
  exact ⟨rfl, h1⟩
theorem hPxA3 {q : Int32} (h : Z3 q) (post : Int32 → PT → Prop) (S : PT) (hq : ¬ q = 0) (hp : post q S) : (xA q = "java/lang/IndexOutOfBoundsException" ∧ post 1 S) ∨ (xA q = "java/lang/IllegalArgumentException" ∧ post 2 S) ∨ (xA q = "java/lang/IllegalStateException" ∧ post 3 S) := by
  rcases h with rfl | rfl | rfl | rfl
  · exact absurd rfl hq
  · exact Or.inl ⟨xA_1, hp⟩
  · exact Or.inr (Or.inl ⟨xA_2, hp⟩)
  · exact Or.inr (Or.inr (⟨xA_3, hp⟩))
theorem hPxB2 {q : Int32} (h : Z2 q) (post : Int32 → PT → Prop) (S : PT) (hq : ¬ q = 0) (hp : post q S) : (xQ q = "java/lang/IndexOutOfBoundsException" ∧ post 1 S) ∨ (xQ q = "java/lang/IllegalStateException" ∧ post 2 S) := by
  rcases h with rfl | rfl | rfl
  · exact absurd rfl hq
  · exact Or.inl ⟨xB_1, hp⟩
  · exact Or.inr (⟨xB_2, hp⟩)
theorem hPxC2 {q : Int32} (h : Z2 q) (post : Int32 → PT → Prop) (S : PT) (hq : ¬ q = 0) (hp : post q S) : (xC q = "java/lang/IndexOutOfBoundsException" ∧ post 1 S) ∨ (xC q = "java/lang/IllegalArgumentException" ∧ post 2 S) := by
  rcases h with rfl | rfl | rfl
  · exact absurd rfl hq
  · exact Or.inl ⟨xC_1, hp⟩
  · exact Or.inr (⟨xC_2, hp⟩)
theorem hPxE2 {q : Int32} (h : Z2 q) (post : Int32 → PT → Prop) (S : PT) (hq : ¬ q = 0) (hp : post q S) : (xE q = "java/lang/IllegalArgumentException" ∧ post 1 S) ∨ (xE q = "java/lang/IllegalStateException" ∧ post 2 S) := by
  rcases h with rfl | rfl | rfl
  · exact absurd rfl hq
  · exact Or.inl ⟨xE_1, hp⟩
  · exact Or.inr (⟨xE_2, hp⟩)
theorem hPxB1 {q : Int32} (h : Z1 q) (post : Int32 → PT → Prop) (S : PT) (hq : ¬ q = 0) (hp : post q S) : (xQ q = "java/lang/IndexOutOfBoundsException" ∧ post 1 S) := by
  rcases h with rfl | rfl
  · exact absurd rfl hq
  · exact ⟨xB_1, hp⟩
section C
variable {e0 x o : Nat} {S : PT} {σ : SG} {μ : MU} {C cap : Nat}
theorem op_l {A : Nat → Nat} {m : Nat} {SM : PT} {c s : Nat} {K : PT → PT → Nat → Nat → Prop} (H : ST e0 x o S σ μ C cap) (R : RM A m SM σ μ) (hC : C < 512) (hc : c ≤ cB C cap) (hs : s ≤ sB2 C cap) (k : GO e0 x o m A C K)
    {q : Int32} {r : Int64} {σ' : SG} {μ' : MU} {X : Int32 → String} {W : Nat → Nat → Nat → (Int64 → PT → Prop) → (String → PT → Prop) → Prop} (cc : CC e0 x o S σ μ C cap q r σ' μ' X (W x)) (h49 : q = 0 → σ' 49 0 = 0)
    {WM : (Int64 → PT → Prop) → Prop} (rm : ∀ post : Int64 → PT → Prop, (∀ S', ¬ q = 0 → RM A m S' (up2 σ 49 0 q) μ → post 0 S') → (∀ S', q = 0 → RM A m S' σ' μ' → post r S') → WM post)
    {PX : (Int32 → PT → Prop) → String → PT → Prop} (hPX : ∀ post S, ¬ q = 0 → post q S → PX post (X q) S) :
    ∃ m1 m2, c + m1 ≤ 300000 ∧ s + m2 ≤ 2000000 ∧ ∃ a1, some x = some a1 ∧ gK S a1 = 9 ∧ ∃ m6 m7, 0 + m6 ≤ m1 ∧ 0 + m7 ≤ m2 ∧ W a1 m6 m7 (fun r5 S4 => ∃ a13, some o = some a13 ∧ gK S4 a13 = 13 ∧ vp_in 0 (gN S4 a13) ∧ ∀ S17, S17 = sB S4 a13 ((0 : Int32).toNatClampNeg) r5 →
      (fun k SC1 => gK SM m = 10 ∧ WM (fun b SM1 => gK SM1 m = 10 ∧ w_X9_thrown m SM1 (fun t SM2 => t = k ∧ (k = 0 → gK SC1 o = 13 ∧ vp_in 0 (gN SC1 o) ∧ gB SC1 o ((0 : Int32).toNatClampNeg) = b) ∧ K SC1 SM2 (c + m1) (s + m2)))) (0 : Int32) S17)
      (PX (fun k SC1 => gK SM m = 10 ∧ WM (fun b SM1 => gK SM1 m = 10 ∧ w_X9_thrown m SM1 (fun t SM2 => t = k ∧ (k = 0 → gK SC1 o = 13 ∧ vp_in 0 (gN SC1 o) ∧ gB SC1 o ((0 : Int32).toNatClampNeg) = b) ∧ K SC1 SM2 (c + m1) (s + m2))))) := by
  obtain ⟨cap', h1, h2, h3, w⟩ := cc
  have c1 : cB C cap = 400 + 60 * C + cap := rfl
  have c2 : sB2 C cap = 20000 + 2000 * C + 2 * cap := rfl
  have c3 : cB (C + 1) cap' = 400 + 60 * (C + 1) + cap' := rfl
  have c4 : sB2 (C + 1) cap' = 20000 + 2000 * (C + 1) + 2 * cap' := rfl
  refine ⟨60 + (cap' - cap), 2000 + 2 * (cap' - cap), by omega, by omega, x, rfl, ST_K H, 60 + (cap' - cap), 2000 + 2 * (cap' - cap), by omega, by omega, ?_⟩
  refine w _ _ _ _ (Nat.le_refl _) (Nat.le_refl _) (fun hq => hPX _ _ hq ⟨RM_K R, rm _ (fun S' _ R' => ⟨RM_K R', ?_⟩) (fun S' h0 => absurd h0 hq)⟩) (fun hq S4 H4 => ?_)
  · rw [r_thrown R']
    refine ⟨up2_s _ _ _ _, fun z => absurd z hq, ?_⟩
    have c5 : cB (C + 1) cap = 400 + 60 * (C + 1) + cap := rfl
    have c6 : sB2 (C + 1) cap = 20000 + 2000 * (C + 1) + 2 * cap := rfl
    have e3 := h3 hq
    exact k _ _ _ _ _ _ _ (ST_49 H q) R' (by omega) (by omega)
  · obtain ⟨b1, b2, b3⟩ := ST_out H4 r
    refine ⟨o, rfl, b1, b2, fun S17 e17 => ⟨RM_K R, rm _ (fun S' hn => absurd hq hn) (fun S' _ R' => ⟨RM_K R', ?_⟩)⟩⟩
    rw [r_thrown R']
    obtain ⟨d1, d2, d3, d4⟩ := b3 S17 e17
    exact ⟨h49 hq, fun _ => ⟨d2, d3, d4⟩, k _ _ _ _ _ _ _ d1 R' (by omega) (by omega)⟩
theorem op_b {A : Nat → Nat} {m : Nat} {SM : PT} {c s : Nat} {K : PT → PT → Nat → Nat → Prop} (H : ST e0 x o S σ μ C cap) (R : RM A m SM σ μ) (hC : C < 512) (hc : c ≤ cB C cap) (hs : s ≤ sB2 C cap) (k : GO e0 x o m A C K)
    {q r : Int32} {σ' : SG} {μ' : MU} {X : Int32 → String} {W : Nat → Nat → Nat → (Int32 → PT → Prop) → (String → PT → Prop) → Prop} (cc : CC e0 x o S σ μ C cap q r σ' μ' X (W x)) (h49 : q = 0 → σ' 49 0 = 0)
    {WM : (Int32 → PT → Prop) → Prop} (rm : ∀ post : Int32 → PT → Prop, (∀ S', ¬ q = 0 → RM A m S' (up2 σ 49 0 q) μ → post 0 S') → (∀ S', q = 0 → RM A m S' σ' μ' → post r S') → WM post)
    {PX : (Int32 → PT → Prop) → String → PT → Prop} (hPX : ∀ post S, ¬ q = 0 → post q S → PX post (X q) S) :
    ∃ m1 m2, c + m1 ≤ 300000 ∧ s + m2 ≤ 2000000 ∧ ∃ a1, some x = some a1 ∧ gK S a1 = 9 ∧ ∃ m6 m7, 0 + m6 ≤ m1 ∧ 0 + m7 ≤ m2 ∧ W a1 m6 m7 (fun r5 S4 =>
      (r5 = 0 → 0 + m6 ≤ m1 ∧ 0 + m7 ≤ m2 ∧ ∃ a13, some o = some a13 ∧ gK S4 a13 = 13 ∧ vp_in 0 (gN S4 a13) ∧ ∀ S17, S17 = sB S4 a13 ((0 : Int32).toNatClampNeg) 0 →
      (fun k SC1 => gK SM m = 10 ∧ WM (fun b SM1 => gK SM1 m = 10 ∧ w_X9_thrown m SM1 (fun t SM2 => t = k ∧ (k = 0 → gK SC1 o = 13 ∧ vp_in 0 (gN SC1 o) ∧ gB SC1 o ((0 : Int32).toNatClampNeg) = (if b = 0 then (0 : Int64) else 1)) ∧ K SC1 SM2 (c + m1) (s + m2)))) (0 : Int32) S17) ∧
      (¬ r5 = 0 → 0 + m6 ≤ m1 ∧ 0 + m7 ≤ m2 ∧ ∃ a13, some o = some a13 ∧ gK S4 a13 = 13 ∧ vp_in 0 (gN S4 a13) ∧ ∀ S17, S17 = sB S4 a13 ((0 : Int32).toNatClampNeg) 1 →
      (fun k SC1 => gK SM m = 10 ∧ WM (fun b SM1 => gK SM1 m = 10 ∧ w_X9_thrown m SM1 (fun t SM2 => t = k ∧ (k = 0 → gK SC1 o = 13 ∧ vp_in 0 (gN SC1 o) ∧ gB SC1 o ((0 : Int32).toNatClampNeg) = (if b = 0 then (0 : Int64) else 1)) ∧ K SC1 SM2 (c + m1) (s + m2)))) (0 : Int32) S17))
      (PX (fun k SC1 => gK SM m = 10 ∧ WM (fun b SM1 => gK SM1 m = 10 ∧ w_X9_thrown m SM1 (fun t SM2 => t = k ∧ (k = 0 → gK SC1 o = 13 ∧ vp_in 0 (gN SC1 o) ∧ gB SC1 o ((0 : Int32).toNatClampNeg) = (if b = 0 then (0 : Int64) else 1)) ∧ K SC1 SM2 (c + m1) (s + m2))))) := by
  obtain ⟨cap', h1, h2, h3, w⟩ := cc
  have c1 : cB C cap = 400 + 60 * C + cap := rfl
  have c2 : sB2 C cap = 20000 + 2000 * C + 2 * cap := rfl
  have c3 : cB (C + 1) cap' = 400 + 60 * (C + 1) + cap' := rfl
  have c4 : sB2 (C + 1) cap' = 20000 + 2000 * (C + 1) + 2 * cap' := rfl
  refine ⟨60 + (cap' - cap), 2000 + 2 * (cap' - cap), by omega, by omega, x, rfl, ST_K H, 60 + (cap' - cap), 2000 + 2 * (cap' - cap), by omega, by omega, ?_⟩
  refine w _ _ _ _ (Nat.le_refl _) (Nat.le_refl _) (fun hq => hPX _ _ hq ⟨RM_K R, rm _ (fun S' _ R' => ⟨RM_K R', ?_⟩) (fun S' h0 => absurd h0 hq)⟩) (fun hq S4 H4 => ?_)
  · rw [r_thrown R']
    refine ⟨up2_s _ _ _ _, fun z => absurd z hq, ?_⟩
    have c5 : cB (C + 1) cap = 400 + 60 * (C + 1) + cap := rfl
    have c6 : sB2 (C + 1) cap = 20000 + 2000 * (C + 1) + 2 * cap := rfl
    have e3 := h3 hq
    exact k _ _ _ _ _ _ _ (ST_49 H q) R' (by omega) (by omega)
  · have fin : ∀ v : Int64, (if r = 0 then (0 : Int64) else 1) = v → ∃ a13, some o = some a13 ∧ gK S4 a13 = 13 ∧ vp_in 0 (gN S4 a13) ∧ ∀ S17, S17 = sB S4 a13 ((0 : Int32).toNatClampNeg) v →
      gK SM m = 10 ∧ WM (fun b SM1 => gK SM1 m = 10 ∧ w_X9_thrown m SM1 (fun t SM2 => t = 0 ∧ ((0 : Int32) = 0 → gK S17 o = 13 ∧ vp_in 0 (gN S17 o) ∧ gB S17 o ((0 : Int32).toNatClampNeg) = (if b = 0 then (0 : Int64) else 1)) ∧ K S17 SM2 (c + (60 + (cap' - cap))) (s + (2000 + 2 * (cap' - cap))))) := by
      intro v hv
      obtain ⟨b1, b2, b3⟩ := ST_out H4 v
      refine ⟨o, rfl, b1, b2, fun S17 e17 => ⟨RM_K R, rm _ (fun S' hn => absurd hq hn) (fun S' _ R' => ⟨RM_K R', ?_⟩)⟩⟩
      rw [r_thrown R']
      obtain ⟨d1, d2, d3, d4⟩ := b3 S17 e17
      exact ⟨h49 hq, fun _ => ⟨d2, d3, by rw [d4, hv]⟩, k _ _ _ _ _ _ _ d1 R' (by omega) (by omega)⟩
    exact ⟨fun h0 => ⟨by omega, by omega, fin 0 (if_pos h0)⟩, fun h0 => ⟨by omega, by omega, fin 1 (if_neg h0)⟩⟩
end C
section C
variable {e0 m0 x o m : Nat} {A : Nat → Nat} {S SM : PT} {σ : SG} {μ : MU} {C cap c s : Nat} {K : PT → PT → Nat → Nat → Prop}
theorem o_0 (H : ST e0 x o S σ μ C cap) (R : RM A m SM σ μ) (hC : C < 512) (hc : c ≤ cB C cap) (hs : s ≤ sB2 C cap) (k : GO e0 x o m A C K) (a1 a2 a3 a4 : Int32) : w_op_0 e0 m0 x m o a1 a2 a3 a4 S SM c s K := by
  have B := (ST_B H).1
  unfold w_op_0 w_L_street
  exact op_i (W := fun a1' m6 m7 post postX => w_X8_street a1' a1 a2 a3 a4 S m6 m7 post postX) (WM := fun post => w_X9_street m a1 a2 a3 a4 SM post) H R hC hc hs k (s_street H hC a1 a2 a3 a4) (fun _ => uf49_street σ a1 a2 a3 a4) (fun post hx h => r_street R B a1 a2 a3 a4 post hx h) (PX := fun post E S => (E = "java/lang/IndexOutOfBoundsException" ∧ (post 1 S)) ∨ (E = "java/lang/IllegalArgumentException" ∧ (post 2 S)) ∨ (E = "java/lang/IllegalStateException" ∧ (post 3 S))) (hPxA3 (by unfold q_street; repeat (first | exact Or.inl rfl | exact Or.inr rfl | exact Or.inr (Or.inl rfl) | exact Or.inr (Or.inr rfl) | exact Or.inr (Or.inr (Or.inl rfl)) | exact Or.inr (Or.inr (Or.inr rfl)) | refine Z_iT ?_ ?_)))
theorem o_1 (H : ST e0 x o S σ μ C cap) (R : RM A m SM σ μ) (hC : C < 512) (hc : c ≤ cB C cap) (hs : s ≤ sB2 C cap) (k : GO e0 x o m A C K) (a1 : Int32) : w_op_1 e0 m0 x m o a1 S SM c s K := by
  have B := (ST_B H).1
  unfold w_op_1 w_L_surface
  exact op_i (W := fun a1' m6 m7 post postX => w_X8_surface e0 m0 a1' a1 S m6 m7 post postX) (WM := fun post => w_X9_surface m a1 SM post) H R hC hc hs k (s_surface H hC a1) (fun _ => uf49_surface σ a1) (fun post hx h => r_surface R B a1 post hx h) (PX := fun post E S => (E = "java/lang/IndexOutOfBoundsException" ∧ (post 1 S)) ∨ (E = "java/lang/IllegalStateException" ∧ (post 2 S))) (hPxB2 (by unfold q_surface; repeat (first | exact Or.inl rfl | exact Or.inr rfl | exact Or.inr (Or.inl rfl) | exact Or.inr (Or.inr rfl) | exact Or.inr (Or.inr (Or.inl rfl)) | exact Or.inr (Or.inr (Or.inr rfl)) | refine Z_iT ?_ ?_)))
theorem o_2 (H : ST e0 x o S σ μ C cap) (R : RM A m SM σ μ) (hC : C < 512) (hc : c ≤ cB C cap) (hs : s ≤ sB2 C cap) (k : GO e0 x o m A C K) (a1 a2 a3 : Int32) : w_op_2 e0 m0 x m o a1 a2 a3 S SM c s K := by
  have B := (ST_B H).1
  obtain ⟨hW, hW0⟩ := nf_nI B 23 rfl
  have hW2 : (σ 23 0).toNatClampNeg ≤ 24 := by have h1 : ((σ 23 0).toNatClampNeg : Int) ≤ 24 := hW0; omega
  unfold w_op_2 w_L_embargo
  exact op_i (W := fun a1' m6 m7 post postX => w_X8_embargo a1' a1 a2 a3 S m6 m7 post postX) (WM := fun post => w_X9_embargo m a1 a2 a3 SM post) H R hC hc hs k (s_embargo H hC a1 a2 a3) (fun _ => uf49_embargo σ a1 a2 a3) (fun post hx h => r_embargo R B hW hW2 a1 a2 a3 post hx h) (PX := fun post E S => (E = "java/lang/IndexOutOfBoundsException" ∧ (post 1 S)) ∨ (E = "java/lang/IllegalArgumentException" ∧ (post 2 S))) (hPxC2 (by unfold q_embargo; repeat (first | exact Or.inl rfl | exact Or.inr rfl | exact Or.inr (Or.inl rfl) | exact Or.inr (Or.inr rfl) | exact Or.inr (Or.inr (Or.inl rfl)) | exact Or.inr (Or.inr (Or.inr rfl)) | refine Z_iT ?_ ?_)))
theorem o_3 (H : ST e0 x o S σ μ C cap) (R : RM A m SM σ μ) (hC : C < 512) (hc : c ≤ cB C cap) (hs : s ≤ sB2 C cap) (k : GO e0 x o m A C K) (a1 a2 a3 a4 a5 : Int32) : w_op_3 e0 m0 x m o a1 a2 a3 a4 a5 S SM c s K := by
  have B := (ST_B H).1
  unfold w_op_3 w_L_thing
  exact op_i (W := fun a1' m6 m7 post postX => w_X8_thing a1' a1 a2 a3 a4 a5 S m6 m7 post postX) (WM := fun post => w_X9_thing m a1 a2 a3 a4 a5 SM post) H R hC hc hs k (s_thing H hC a1 a2 a3 a4 a5) (fun _ => uf49_thing σ a1 a2 a3 a4 a5) (fun post hx h => r_thing R B a1 a2 a3 a4 a5 post hx h) (PX := fun post E S => (E = "java/lang/IndexOutOfBoundsException" ∧ (post 1 S)) ∨ (E = "java/lang/IllegalArgumentException" ∧ (post 2 S)) ∨ (E = "java/lang/IllegalStateException" ∧ (post 3 S))) (hPxA3 (by unfold q_thing; repeat (first | exact Or.inl rfl | exact Or.inr rfl | exact Or.inr (Or.inl rfl) | exact Or.inr (Or.inr rfl) | exact Or.inr (Or.inr (Or.inl rfl)) | exact Or.inr (Or.inr (Or.inr rfl)) | refine Z_iT ?_ ?_)))
theorem o_4 (H : ST e0 x o S σ μ C cap) (R : RM A m SM σ μ) (hC : C < 512) (hc : c ≤ cB C cap) (hs : s ≤ sB2 C cap) (k : GO e0 x o m A C K) (a1 a2 a3 a4 : Int32) : w_op_4 e0 m0 x m o a1 a2 a3 a4 S SM c s K := by
  have B := (ST_B H).1
  unfold w_op_4 w_L_record
  exact op_i (W := fun a1' m6 m7 post postX => w_X8_record a1' a1 a2 a3 a4 S m6 m7 post postX) (WM := fun post => w_X9_record m a1 a2 a3 a4 SM post) H R hC hc hs k (s_record H hC a1 a2 a3 a4) (fun _ => uf49_record σ a1 a2 a3 a4) (fun post hx h => r_record R B a1 a2 a3 a4 post hx h) (PX := fun post E S => (E = "java/lang/IndexOutOfBoundsException" ∧ (post 1 S)) ∨ (E = "java/lang/IllegalArgumentException" ∧ (post 2 S))) (hPxC2 (by unfold q_record; repeat (first | exact Or.inl rfl | exact Or.inr rfl | exact Or.inr (Or.inl rfl) | exact Or.inr (Or.inr rfl) | exact Or.inr (Or.inr (Or.inl rfl)) | exact Or.inr (Or.inr (Or.inr rfl)) | refine Z_iT ?_ ?_)))
theorem o_5 (H : ST e0 x o S σ μ C cap) (R : RM A m SM σ μ) (hC : C < 512) (hc : c ≤ cB C cap) (hs : s ≤ sB2 C cap) (k : GO e0 x o m A C K) (a1 : Int32) : w_op_5 e0 m0 x m o a1 S SM c s K := by
  have B := (ST_B H).1
  unfold w_op_5 w_L_lose w_L_lose_b15
  exact op_b (W := fun a1' m6 m7 post postX => w_X8_lose a1' a1 S m6 m7 post postX) (WM := fun post => w_X9_lose m a1 SM post) H R hC hc hs k (s_lose H hC a1) (fun _ => uf49_lose σ a1) (fun post hx h => r_lose R B a1 post hx h) (PX := fun post E S => (E = "java/lang/IndexOutOfBoundsException" ∧ (post 1 S))) (hPxB1 (by unfold q_lose; repeat (first | exact Or.inl rfl | exact Or.inr rfl | exact Or.inr (Or.inl rfl) | exact Or.inr (Or.inr rfl) | exact Or.inr (Or.inr (Or.inl rfl)) | exact Or.inr (Or.inr (Or.inr rfl)) | refine Z_iT ?_ ?_)))
theorem o_6 (H : ST e0 x o S σ μ C cap) (R : RM A m SM σ μ) (hC : C < 512) (hc : c ≤ cB C cap) (hs : s ≤ sB2 C cap) (k : GO e0 x o m A C K) (a1 : Int32) : w_op_6 e0 m0 x m o a1 S SM c s K := by
  have B := (ST_B H).1
  unfold w_op_6 w_L_survey
  exact op_i (W := fun a1' m6 m7 post postX => w_X8_survey a1' a1 S m6 m7 post postX) (WM := fun post => w_X9_survey m a1 SM post) H R hC hc hs k (s_survey H hC a1) (fun _ => uf49_survey σ a1) (fun post hx h => r_survey R B a1 post hx h) (PX := fun post E S => (E = "java/lang/IndexOutOfBoundsException" ∧ (post 1 S)) ∨ (E = "java/lang/IllegalStateException" ∧ (post 2 S))) (hPxB2 (by unfold q_survey; repeat (first | exact Or.inl rfl | exact Or.inr rfl | exact Or.inr (Or.inl rfl) | exact Or.inr (Or.inr rfl) | exact Or.inr (Or.inr (Or.inl rfl)) | exact Or.inr (Or.inr (Or.inr rfl)) | refine Z_iT ?_ ?_)))
theorem o_7 (H : ST e0 x o S σ μ C cap) (R : RM A m SM σ μ) (hC : C < 512) (hc : c ≤ cB C cap) (hs : s ≤ sB2 C cap) (k : GO e0 x o m A C K) (a1 a2 : Int32) : w_op_7 e0 m0 x m o a1 a2 S SM c s K := by
  have B := (ST_B H).1
  obtain ⟨hT, hT0⟩ := nf_nI B 14 rfl
  have hT2 : (σ 14 0).toNatClampNeg ≤ 30 := by have h1 : ((σ 14 0).toNatClampNeg : Int) ≤ 30 := hT0; omega
  unfold w_op_7 w_L_trial
  exact op_i (W := fun a1' m6 m7 post postX => w_X8_trial a1' a1 a2 S m6 m7 post postX) (WM := fun post => w_X9_trial m a1 a2 SM post) H R hC hc hs k (s_trial H hC a1 a2) (fun _ => uf49_trial σ a1 a2) (fun post hx h => r_trial R B hT hT2 a1 a2 post hx h) (PX := fun post E S => (E = "java/lang/IndexOutOfBoundsException" ∧ (post 1 S))) (hPxB1 (by unfold q_trial; repeat (first | exact Or.inl rfl | exact Or.inr rfl | exact Or.inr (Or.inl rfl) | exact Or.inr (Or.inr rfl) | exact Or.inr (Or.inr (Or.inl rfl)) | exact Or.inr (Or.inr (Or.inr rfl)) | refine Z_iT ?_ ?_)))
theorem o_8 (H : ST e0 x o S σ μ C cap) (R : RM A m SM σ μ) (hC : C < 512) (hc : c ≤ cB C cap) (hs : s ≤ sB2 C cap) (k : GO e0 x o m A C K) (a1 a2 a3 a4 a5 a6 a7 a8 : Int32) : w_op_8 e0 m0 x m o a1 a2 a3 a4 a5 a6 a7 a8 S SM c s K := by
  have B := (ST_B H).1
  unfold w_op_8 w_L_ask
  exact op_i (W := fun a1' m6 m7 post postX => w_X8_ask a1' a1 a2 a3 a4 a5 a6 a7 a8 S m6 m7 post postX) (WM := fun post => w_X9_ask m a1 a2 a3 a4 a5 a6 a7 a8 SM post) H R hC hc hs k (s_ask H hC a1 a2 a3 a4 a5 a6 a7 a8) (fun _ => uf49_ask σ a1 a2 a3 a4 a5 a6 a7 a8) (fun post hx h => r_ask R B a1 a2 a3 a4 a5 a6 a7 a8 post hx h) (PX := fun post E S => (E = "java/lang/IndexOutOfBoundsException" ∧ (post 1 S)) ∨ (E = "java/lang/IllegalArgumentException" ∧ (post 2 S)) ∨ (E = "java/lang/IllegalStateException" ∧ (post 3 S))) (hPxA3 (by unfold q_ask; repeat (first | exact Or.inl rfl | exact Or.inr rfl | exact Or.inr (Or.inl rfl) | exact Or.inr (Or.inr rfl) | exact Or.inr (Or.inr (Or.inl rfl)) | exact Or.inr (Or.inr (Or.inr rfl)) | refine Z_iT ?_ ?_)))
theorem o_9 (H : ST e0 x o S σ μ C cap) (R : RM A m SM σ μ) (hC : C < 512) (hc : c ≤ cB C cap) (hs : s ≤ sB2 C cap) (k : GO e0 x o m A C K) (a1 a2 : Int32) : w_op_9 e0 m0 x m o a1 a2 S SM c s K := by
  have B := (ST_B H).1
  obtain ⟨hW, hW0⟩ := nf_nI B 23 rfl
  have hW2 : (σ 23 0).toNatClampNeg ≤ 24 := by have h1 : ((σ 23 0).toNatClampNeg : Int) ≤ 24 := hW0; omega
  unfold w_op_9 w_L_grant
  exact op_i (W := fun a1' m6 m7 post postX => w_X8_grant a1' a1 a2 S m6 m7 post postX) (WM := fun post => w_X9_grant m a1 a2 SM post) H R hC hc hs k (s_grant H hC a1 a2) (fun _ => uf49_grant σ a1 a2) (fun post hx h => r_grant R B hW hW2 a1 a2 post hx h) (PX := fun post E S => (E = "java/lang/IndexOutOfBoundsException" ∧ (post 1 S)) ∨ (E = "java/lang/IllegalArgumentException" ∧ (post 2 S)) ∨ (E = "java/lang/IllegalStateException" ∧ (post 3 S))) (hPxA3 (by unfold q_grant; repeat (first | exact Or.inl rfl | exact Or.inr rfl | exact Or.inr (Or.inl rfl) | exact Or.inr (Or.inr rfl) | exact Or.inr (Or.inr (Or.inl rfl)) | exact Or.inr (Or.inr (Or.inr rfl)) | refine Z_iT ?_ ?_)))
theorem o_10 (H : ST e0 x o S σ μ C cap) (R : RM A m SM σ μ) (hC : C < 512) (hc : c ≤ cB C cap) (hs : s ≤ sB2 C cap) (k : GO e0 x o m A C K) (a1 : Int32) : w_op_10 e0 m0 x m o a1 S SM c s K := by
  have B := (ST_B H).1
  unfold w_op_10 w_L_refuse
  exact op_i (W := fun a1' m6 m7 post postX => w_X8_refuse a1' a1 S m6 m7 post postX) (WM := fun post => w_X9_refuse m a1 SM post) H R hC hc hs k (s_refuse H hC a1) (fun _ => uf49_refuse σ a1) (fun post hx h => r_refuse R B a1 post hx h) (PX := fun post E S => (E = "java/lang/IndexOutOfBoundsException" ∧ (post 1 S)) ∨ (E = "java/lang/IllegalStateException" ∧ (post 2 S))) (hPxB2 (by unfold q_refuse; repeat (first | exact Or.inl rfl | exact Or.inr rfl | exact Or.inr (Or.inl rfl) | exact Or.inr (Or.inr rfl) | exact Or.inr (Or.inr (Or.inl rfl)) | exact Or.inr (Or.inr (Or.inr rfl)) | refine Z_iT ?_ ?_)))
theorem o_11 (H : ST e0 x o S σ μ C cap) (R : RM A m SM σ μ) (hC : C < 512) (hc : c ≤ cB C cap) (hs : s ≤ sB2 C cap) (k : GO e0 x o m A C K) (a1 a2 : Int32) : w_op_11 e0 m0 x m o a1 a2 S SM c s K := by
  have B := (ST_B H).1
  unfold w_op_11 w_L_vary
  exact op_i (W := fun a1' m6 m7 post postX => w_X8_vary a1' a1 a2 S m6 m7 post postX) (WM := fun post => w_X9_vary m a1 a2 SM post) H R hC hc hs k (s_vary H hC a1 a2) (fun _ => uf49_vary σ a1 a2) (fun post hx h => r_vary R B a1 a2 post hx h) (PX := fun post E S => (E = "java/lang/IndexOutOfBoundsException" ∧ (post 1 S)) ∨ (E = "java/lang/IllegalArgumentException" ∧ (post 2 S)) ∨ (E = "java/lang/IllegalStateException" ∧ (post 3 S))) (hPxA3 (by unfold q_vary; repeat (first | exact Or.inl rfl | exact Or.inr rfl | exact Or.inr (Or.inl rfl) | exact Or.inr (Or.inr rfl) | exact Or.inr (Or.inr (Or.inl rfl)) | exact Or.inr (Or.inr (Or.inr rfl)) | refine Z_iT ?_ ?_)))
theorem o_12 (H : ST e0 x o S σ μ C cap) (R : RM A m SM σ μ) (hC : C < 512) (hc : c ≤ cB C cap) (hs : s ≤ sB2 C cap) (k : GO e0 x o m A C K) (a1 : Int32) : w_op_12 e0 m0 x m o a1 S SM c s K := by
  have B := (ST_B H).1
  unfold w_op_12 w_L_exempt w_L_exempt_b15
  exact op_b (W := fun a1' m6 m7 post postX => w_X8_exempt a1' a1 S m6 m7 post postX) (WM := fun post => w_X9_exempt m a1 SM post) H R hC hc hs k (s_exempt H hC a1) (fun _ => uf49_exempt σ a1) (fun post hx h => r_exempt R B a1 post hx h) (PX := fun post E S => (E = "java/lang/IndexOutOfBoundsException" ∧ (post 1 S))) (hPxB1 (by unfold q_exempt; repeat (first | exact Or.inl rfl | exact Or.inr rfl | exact Or.inr (Or.inl rfl) | exact Or.inr (Or.inr rfl) | exact Or.inr (Or.inr (Or.inl rfl)) | exact Or.inr (Or.inr (Or.inr rfl)) | refine Z_iT ?_ ?_)))
theorem o_13 (H : ST e0 x o S σ μ C cap) (R : RM A m SM σ μ) (hC : C < 512) (hc : c ≤ cB C cap) (hs : s ≤ sB2 C cap) (k : GO e0 x o m A C K) (a1 a2 : Int32) : w_op_13 e0 m0 x m o a1 a2 S SM c s K := by
  have B := (ST_B H).1
  unfold w_op_13 w_L_agree w_L_agree_b16
  exact op_b (W := fun a1' m6 m7 post postX => w_X8_agree a1' a1 a2 S m6 m7 post postX) (WM := fun post => w_X9_agree m a1 a2 SM post) H R hC hc hs k (s_agree H hC a1 a2) (fun _ => uf49_agree σ a1 a2) (fun post hx h => r_agree R B a1 a2 post hx h) (PX := fun post E S => (E = "java/lang/IndexOutOfBoundsException" ∧ (post 1 S)) ∨ (E = "java/lang/IllegalArgumentException" ∧ (post 2 S))) (hPxC2 (by unfold q_agree; repeat (first | exact Or.inl rfl | exact Or.inr rfl | exact Or.inr (Or.inl rfl) | exact Or.inr (Or.inr rfl) | exact Or.inr (Or.inr (Or.inl rfl)) | exact Or.inr (Or.inr (Or.inr rfl)) | refine Z_iT ?_ ?_)))
theorem o_14 (H : ST e0 x o S σ μ C cap) (R : RM A m SM σ μ) (hC : C < 512) (hc : c ≤ cB C cap) (hs : s ≤ sB2 C cap) (k : GO e0 x o m A C K) (a1 : Int32) : w_op_14 e0 m0 x m o a1 S SM c s K := by
  have B := (ST_B H).1
  unfold w_op_14 w_L_start
  exact op_i (W := fun a1' m6 m7 post postX => w_X8_start a1' a1 S m6 m7 post postX) (WM := fun post => w_X9_start m a1 SM post) H R hC hc hs k (s_start H hC a1) (fun _ => uf49_start σ a1) (fun post hx h => r_start R B a1 post hx h) (PX := fun post E S => (E = "java/lang/IndexOutOfBoundsException" ∧ (post 1 S)) ∨ (E = "java/lang/IllegalStateException" ∧ (post 2 S))) (hPxB2 (by unfold q_start; repeat (first | exact Or.inl rfl | exact Or.inr rfl | exact Or.inr (Or.inl rfl) | exact Or.inr (Or.inr rfl) | exact Or.inr (Or.inr (Or.inl rfl)) | exact Or.inr (Or.inr (Or.inr rfl)) | refine Z_iT ?_ ?_)))
theorem o_15 (H : ST e0 x o S σ μ C cap) (R : RM A m SM σ μ) (hC : C < 512) (hc : c ≤ cB C cap) (hs : s ≤ sB2 C cap) (k : GO e0 x o m A C K) (a1 a2 : Int32) : w_op_15 e0 m0 x m o a1 a2 S SM c s K := by
  have B := (ST_B H).1
  obtain ⟨hT, hT0⟩ := nf_nI B 14 rfl
  have hT2 : (σ 14 0).toNatClampNeg ≤ 30 := by have h1 : ((σ 14 0).toNatClampNeg : Int) ≤ 30 := hT0; omega
  unfold w_op_15 w_L_open
  exact op_i (W := fun a1' m6 m7 post postX => w_X8_open a1' a1 a2 S m6 m7 post postX) (WM := fun post => w_X9_open m a1 a2 SM post) H R hC hc hs k (s_open H hC a1 a2) (fun _ => uf49_open σ a1 a2 (σ 14 0).toNatClampNeg) (fun post hx h => r_open R B hT hT2 a1 a2 post hx h) (PX := fun post E S => (E = "java/lang/IndexOutOfBoundsException" ∧ (post 1 S)) ∨ (E = "java/lang/IllegalStateException" ∧ (post 2 S))) (hPxB2 (by unfold q_open; repeat (first | exact Or.inl rfl | exact Or.inr rfl | exact Or.inr (Or.inl rfl) | exact Or.inr (Or.inr rfl) | exact Or.inr (Or.inr (Or.inl rfl)) | exact Or.inr (Or.inr (Or.inr rfl)) | refine Z_iT ?_ ?_)))
theorem o_16 (H : ST e0 x o S σ μ C cap) (R : RM A m SM σ μ) (hC : C < 512) (hc : c ≤ cB C cap) (hs : s ≤ sB2 C cap) (k : GO e0 x o m A C K) (a1 a2 a3 : Int32) : w_op_16 e0 m0 x m o a1 a2 a3 S SM c s K := by
  have B := (ST_B H).1
  obtain ⟨hF, hF0⟩ := nf_nI B 40 rfl
  have hF2 : (σ 40 0).toNatClampNeg ≤ 1000 := by have h1 : ((σ 40 0).toNatClampNeg : Int) ≤ 512 := hF0; omega
  unfold w_op_16 w_L_fill
  exact op_i (W := fun a1' m6 m7 post postX => w_X8_fill e0 m0 a1' a1 a2 a3 S m6 m7 post postX) (WM := fun post => w_X9_fill m a1 a2 a3 SM post) H R hC hc hs k (s_fill H hC a1 a2 a3) (fun _ => uf49_fill σ a1 a2 a3) (fun post hx h => r_fill R B hF hF2 a1 a2 a3 post hx h) (PX := fun post E S => (E = "java/lang/IndexOutOfBoundsException" ∧ (post 1 S)) ∨ (E = "java/lang/IllegalArgumentException" ∧ (post 2 S)) ∨ (E = "java/lang/IllegalStateException" ∧ (post 3 S))) (hPxA3 (by unfold q_fill; repeat (first | exact Or.inl rfl | exact Or.inr rfl | exact Or.inr (Or.inl rfl) | exact Or.inr (Or.inr rfl) | exact Or.inr (Or.inr (Or.inl rfl)) | exact Or.inr (Or.inr (Or.inr rfl)) | refine Z_iT ?_ ?_)))
theorem o_17 (H : ST e0 x o S σ μ C cap) (R : RM A m SM σ μ) (hC : C < 512) (hc : c ≤ cB C cap) (hs : s ≤ sB2 C cap) (k : GO e0 x o m A C K) (a1 : Int32) : w_op_17 e0 m0 x m o a1 S SM c s K := by
  have B := (ST_B H).1
  unfold w_op_17 w_L_plate w_L_plate_b15
  exact op_b (W := fun a1' m6 m7 post postX => w_X8_plate a1' a1 S m6 m7 post postX) (WM := fun post => w_X9_plate m a1 SM post) H R hC hc hs k (s_plate H hC a1) (fun _ => uf49_plate σ a1) (fun post hx h => r_plate R B a1 post hx h) (PX := fun post E S => (E = "java/lang/IndexOutOfBoundsException" ∧ (post 1 S)) ∨ (E = "java/lang/IllegalStateException" ∧ (post 2 S))) (hPxB2 (by unfold q_plate; repeat (first | exact Or.inl rfl | exact Or.inr rfl | exact Or.inr (Or.inl rfl) | exact Or.inr (Or.inr rfl) | exact Or.inr (Or.inr (Or.inl rfl)) | exact Or.inr (Or.inr (Or.inr rfl)) | refine Z_iT ?_ ?_)))
theorem o_18 (H : ST e0 x o S σ μ C cap) (R : RM A m SM σ μ) (hC : C < 512) (hc : c ≤ cB C cap) (hs : s ≤ sB2 C cap) (k : GO e0 x o m A C K) (a1 : Int32) : w_op_18 e0 m0 x m o a1 S SM c s K := by
  have B := (ST_B H).1
  obtain ⟨hW, hW0⟩ := nf_nI B 23 rfl
  have hW2 : (σ 23 0).toNatClampNeg ≤ 24 := by have h1 : ((σ 23 0).toNatClampNeg : Int) ≤ 24 := hW0; omega
  unfold w_op_18 w_L_extend
  exact op_i (W := fun a1' m6 m7 post postX => w_X8_extend a1' a1 S m6 m7 post postX) (WM := fun post => w_X9_extend m a1 SM post) H R hC hc hs k (s_extend H hC a1) (fun _ => uf49_extend σ a1) (fun post hx h => r_extend R B hW hW2 a1 post hx h) (PX := fun post E S => (E = "java/lang/IndexOutOfBoundsException" ∧ (post 1 S)) ∨ (E = "java/lang/IllegalStateException" ∧ (post 2 S))) (hPxB2 (by unfold q_extend; repeat (first | exact Or.inl rfl | exact Or.inr rfl | exact Or.inr (Or.inl rfl) | exact Or.inr (Or.inr rfl) | exact Or.inr (Or.inr (Or.inl rfl)) | exact Or.inr (Or.inr (Or.inr rfl)) | refine Z_iT ?_ ?_)))
theorem o_19 (H : ST e0 x o S σ μ C cap) (R : RM A m SM σ μ) (hC : C < 512) (hc : c ≤ cB C cap) (hs : s ≤ sB2 C cap) (k : GO e0 x o m A C K) (a1 : Int32) : w_op_19 e0 m0 x m o a1 S SM c s K := by
  have B := (ST_B H).1
  unfold w_op_19 w_L_stop
  exact op_i (W := fun a1' m6 m7 post postX => w_X8_stop a1' a1 S m6 m7 post postX) (WM := fun post => w_X9_stop m a1 SM post) H R hC hc hs k (s_stop H hC a1) (fun _ => uf49_stop σ a1) (fun post hx h => r_stop R B a1 post hx h) (PX := fun post E S => (E = "java/lang/IndexOutOfBoundsException" ∧ (post 1 S)) ∨ (E = "java/lang/IllegalStateException" ∧ (post 2 S))) (hPxB2 (by unfold q_stop; repeat (first | exact Or.inl rfl | exact Or.inr rfl | exact Or.inr (Or.inl rfl) | exact Or.inr (Or.inr rfl) | exact Or.inr (Or.inr (Or.inl rfl)) | exact Or.inr (Or.inr (Or.inr rfl)) | refine Z_iT ?_ ?_)))
theorem o_20 (H : ST e0 x o S σ μ C cap) (R : RM A m SM σ μ) (hC : C < 512) (hc : c ≤ cB C cap) (hs : s ≤ sB2 C cap) (k : GO e0 x o m A C K) (a1 : Int32) : w_op_20 e0 m0 x m o a1 S SM c s K := by
  have B := (ST_B H).1
  obtain ⟨hW, hW0⟩ := nf_nI B 23 rfl
  have hW2 : (σ 23 0).toNatClampNeg ≤ 24 := by have h1 : ((σ 23 0).toNatClampNeg : Int) ≤ 24 := hW0; omega
  obtain ⟨hS, hS0⟩ := nf_nI B 1 rfl
  have hS2 : (σ 1 0).toNatClampNeg ≤ 6 := by have h1 : ((σ 1 0).toNatClampNeg : Int) ≤ 6 := hS0; omega
  unfold w_op_20 w_L_pass
  exact op_i (W := fun a1' m6 m7 post postX => w_X8_pass a1' a1 S m6 m7 post postX) (WM := fun post => w_X9_pass m a1 SM post) H R hC hc hs k (s_pass H hC a1) (fun _ => by unfold u_pass; rw [z_run_f _ _ _ _ (by decide) (by decide) (by decide) (by decide) (by decide)]; show up2 σ 49 0 0 49 0 = 0; exact up2_s _ _ _ _) (fun post hx h => r_pass R B hW hW2 hS hS2 a1 post hx h) (PX := fun post E S => (E = "java/lang/IllegalArgumentException" ∧ (post 1 S)) ∨ (E = "java/lang/IllegalStateException" ∧ (post 2 S))) (hPxE2 (by unfold q_pass; repeat (first | exact Or.inl rfl | exact Or.inr rfl | exact Or.inr (Or.inl rfl) | exact Or.inr (Or.inr rfl) | exact Or.inr (Or.inr (Or.inl rfl)) | exact Or.inr (Or.inr (Or.inr rfl)) | refine Z_iT ?_ ?_)))
theorem o_21 (H : ST e0 x o S σ μ C cap) (R : RM A m SM σ μ) (hC : C < 512) (hc : c ≤ cB C cap) (hs : s ≤ sB2 C cap) (k : GO e0 x o m A C K) (a1 a2 a3 : Int32) : w_op_21 e0 m0 x m o a1 a2 a3 S SM c s K := by
  have B := (ST_B H).1
  obtain ⟨hF, hF0⟩ := nf_nI B 40 rfl
  have hF2 : (σ 40 0).toNatClampNeg ≤ 1000 := by have h1 : ((σ 40 0).toNatClampNeg : Int) ≤ 512 := hF0; omega
  unfold w_op_21 w_L_defect
  exact op_i (W := fun a1' m6 m7 post postX => w_X8_defect a1' a1 a2 a3 S m6 m7 post postX) (WM := fun post => w_X9_defect m a1 a2 a3 SM post) H R hC hc hs k (s_defect H hC a1 a2 a3) (fun _ => uf49_defect σ (z_liab σ a1.toNatClampNeg (z_q a1 a2) a3 (σ 40 0).toNatClampNeg)) (fun post hx h => r_defect R B hF hF2 a1 a2 a3 post hx h) (PX := fun post E S => (E = "java/lang/IndexOutOfBoundsException" ∧ (post 1 S)) ∨ (E = "java/lang/IllegalArgumentException" ∧ (post 2 S))) (hPxC2 (by unfold q_asks; repeat (first | exact Or.inl rfl | exact Or.inr rfl | exact Or.inr (Or.inl rfl) | exact Or.inr (Or.inr rfl) | exact Or.inr (Or.inr (Or.inl rfl)) | exact Or.inr (Or.inr (Or.inr rfl)) | refine Z_iT ?_ ?_)))
theorem o_22 (H : ST e0 x o S σ μ C cap) (R : RM A m SM σ μ) (hC : C < 512) (hc : c ≤ cB C cap) (hs : s ≤ sB2 C cap) (k : GO e0 x o m A C K) (a1 a2 : Int32) : w_op_22 e0 m0 x m o a1 a2 S SM c s K := by
  have B := (ST_B H).1
  obtain ⟨hF, hF0⟩ := nf_nI B 40 rfl
  have hF2 : (σ 40 0).toNatClampNeg ≤ 1000 := by have h1 : ((σ 40 0).toNatClampNeg : Int) ≤ 512 := hF0; omega
  unfold w_op_22 w_L_core
  exact op_i (W := fun a1' m6 m7 post postX => w_X8_core a1' a1 a2 S m6 m7 post postX) (WM := fun post => w_X9_core m a1 a2 SM post) H R hC hc hs k (s_core H hC a1 a2) (fun _ => uf49_core σ (z_lat σ a1 a2 (σ 40 0).toNatClampNeg).toNatClampNeg) (fun post hx h => r_core R B hF hF2 a1 a2 post hx h) (PX := fun post E S => (E = "java/lang/IndexOutOfBoundsException" ∧ (post 1 S)) ∨ (E = "java/lang/IllegalStateException" ∧ (post 2 S))) (hPxB2 (by unfold q_core; repeat (first | exact Or.inl rfl | exact Or.inr rfl | exact Or.inr (Or.inl rfl) | exact Or.inr (Or.inr rfl) | exact Or.inr (Or.inr (Or.inl rfl)) | exact Or.inr (Or.inr (Or.inr rfl)) | refine Z_iT ?_ ?_)))
theorem o_23 (H : ST e0 x o S σ μ C cap) (R : RM A m SM σ μ) (hC : C < 512) (hc : c ≤ cB C cap) (hs : s ≤ sB2 C cap) (k : GO e0 x o m A C K) (a1 a2 a3 : Int32) : w_op_23 e0 m0 x m o a1 a2 a3 S SM c s K := by
  have B := (ST_B H).1
  obtain ⟨hF, hF0⟩ := nf_nI B 40 rfl
  have hF2 : (σ 40 0).toNatClampNeg ≤ 1000 := by have h1 : ((σ 40 0).toNatClampNeg : Int) ≤ 512 := hF0; omega
  unfold w_op_23 w_L_liable
  exact op_i (W := fun a1' m6 m7 post postX => w_X8_liable a1' a1 a2 a3 S m6 m7 post postX) (WM := fun post => w_X9_liable m a1 a2 a3 SM post) H R hC hc hs k (s_liable H hC a1 a2 a3) (fun _ => up2_s _ _ _ _) (fun post hx h => r_liable R B hF hF2 a1 a2 a3 post hx h) (PX := fun post E S => (E = "java/lang/IndexOutOfBoundsException" ∧ (post 1 S)) ∨ (E = "java/lang/IllegalArgumentException" ∧ (post 2 S))) (hPxC2 (by unfold q_asks; repeat (first | exact Or.inl rfl | exact Or.inr rfl | exact Or.inr (Or.inl rfl) | exact Or.inr (Or.inr rfl) | exact Or.inr (Or.inr (Or.inl rfl)) | exact Or.inr (Or.inr (Or.inr rfl)) | refine Z_iT ?_ ?_)))
theorem o_24 (H : ST e0 x o S σ μ C cap) (R : RM A m SM σ μ) (hC : C < 512) (hc : c ≤ cB C cap) (hs : s ≤ sB2 C cap) (k : GO e0 x o m A C K) (a1 a2 a3 : Int32) : w_op_24 e0 m0 x m o a1 a2 a3 S SM c s K := by
  have B := (ST_B H).1
  obtain ⟨hF, hF0⟩ := nf_nI B 40 rfl
  have hF2 : (σ 40 0).toNatClampNeg ≤ 1000 := by have h1 : ((σ 40 0).toNatClampNeg : Int) ≤ 512 := hF0; omega
  unfold w_op_24 w_L_liableAnew
  exact op_i (W := fun a1' m6 m7 post postX => w_X8_liableAnew a1' a1 a2 a3 S m6 m7 post postX) (WM := fun post => w_X9_liableAnew m a1 a2 a3 SM post) H R hC hc hs k (s_liableAnew H hC a1 a2 a3) (fun _ => up2_s _ _ _ _) (fun post hx h => r_liableAnew R B hF hF2 a1 a2 a3 post hx h) (PX := fun post E S => (E = "java/lang/IndexOutOfBoundsException" ∧ (post 1 S)) ∨ (E = "java/lang/IllegalArgumentException" ∧ (post 2 S))) (hPxC2 (by unfold q_asks; repeat (first | exact Or.inl rfl | exact Or.inr rfl | exact Or.inr (Or.inl rfl) | exact Or.inr (Or.inr rfl) | exact Or.inr (Or.inr (Or.inl rfl)) | exact Or.inr (Or.inr (Or.inr rfl)) | refine Z_iT ?_ ?_)))
theorem o_25 (H : ST e0 x o S σ μ C cap) (R : RM A m SM σ μ) (hC : C < 512) (hc : c ≤ cB C cap) (hs : s ≤ sB2 C cap) (k : GO e0 x o m A C K) (a1 : Int32) : w_op_25 e0 m0 x m o a1 S SM c s K := by
  have B := (ST_B H).1
  obtain ⟨hW, hW0⟩ := nf_nI B 23 rfl
  have hW2 : (σ 23 0).toNatClampNeg ≤ 24 := by have h1 : ((σ 23 0).toNatClampNeg : Int) ≤ 24 := hW0; omega
  unfold w_op_25 w_L_bars
  exact op_i (W := fun a1' m6 m7 post postX => w_X8_bars a1' a1 S m6 m7 post postX) (WM := fun post => w_X9_bars m a1 SM post) H R hC hc hs k (s_bars H hC a1) (fun _ => up2_s _ _ _ _) (fun post hx h => r_bars R B hW hW2 a1 post hx h) (PX := fun post E S => (E = "java/lang/IndexOutOfBoundsException" ∧ (post 1 S))) (hPxB1 (by unfold q_wk; repeat (first | exact Or.inl rfl | exact Or.inr rfl | exact Or.inr (Or.inl rfl) | exact Or.inr (Or.inr rfl) | exact Or.inr (Or.inr (Or.inl rfl)) | exact Or.inr (Or.inr (Or.inr rfl)) | refine Z_iT ?_ ?_)))
theorem o_26 (H : ST e0 x o S σ μ C cap) (R : RM A m SM σ μ) (hC : C < 512) (hc : c ≤ cB C cap) (hs : s ≤ sB2 C cap) (k : GO e0 x o m A C K) (a1 a2 : Int32) : w_op_26 e0 m0 x m o a1 a2 S SM c s K := by
  have B := (ST_B H).1
  obtain ⟨hW, hW0⟩ := nf_nI B 23 rfl
  have hW2 : (σ 23 0).toNatClampNeg ≤ 24 := by have h1 : ((σ 23 0).toNatClampNeg : Int) ≤ 24 := hW0; omega
  unfold w_op_26 w_L_meets
  exact op_i (W := fun a1' m6 m7 post postX => w_X8_meets a1' a1 a2 S m6 m7 post postX) (WM := fun post => w_X9_meets m a1 a2 SM post) H R hC hc hs k (s_meets H hC a1 a2) (fun _ => up2_s _ _ _ _) (fun post hx h => r_meets R B hW hW2 a1 a2 post hx h) (PX := fun post E S => (E = "java/lang/IndexOutOfBoundsException" ∧ (post 1 S)) ∨ (E = "java/lang/IllegalArgumentException" ∧ (post 2 S))) (hPxC2 (by unfold q_meets; repeat (first | exact Or.inl rfl | exact Or.inr rfl | exact Or.inr (Or.inl rfl) | exact Or.inr (Or.inr rfl) | exact Or.inr (Or.inr (Or.inl rfl)) | exact Or.inr (Or.inr (Or.inr rfl)) | refine Z_iT ?_ ?_)))
theorem o_27 (H : ST e0 x o S σ μ C cap) (R : RM A m SM σ μ) (hC : C < 512) (hc : c ≤ cB C cap) (hs : s ≤ sB2 C cap) (k : GO e0 x o m A C K) (a1 a2 : Int32) : w_op_27 e0 m0 x m o a1 a2 S SM c s K := by
  have B := (ST_B H).1
  unfold w_op_27 w_L_of
  exact op_i (W := fun a1' m6 m7 post postX => w_X8_of a1' a1 a2 S m6 m7 post postX) (WM := fun post => w_X9_of m a1 a2 SM post) H R hC hc hs k (s_of H hC a1 a2) (fun _ => up2_s _ _ _ _) (fun post hx h => r_of R B a1 a2 post hx h) (PX := fun post E S => (E = "java/lang/IndexOutOfBoundsException" ∧ (post 1 S)) ∨ (E = "java/lang/IllegalArgumentException" ∧ (post 2 S))) (hPxC2 (by unfold q_of; repeat (first | exact Or.inl rfl | exact Or.inr rfl | exact Or.inr (Or.inl rfl) | exact Or.inr (Or.inr rfl) | exact Or.inr (Or.inr (Or.inl rfl)) | exact Or.inr (Or.inr (Or.inr rfl)) | refine Z_iT ?_ ?_)))
theorem o_28 (H : ST e0 x o S σ μ C cap) (R : RM A m SM σ μ) (hC : C < 512) (hc : c ≤ cB C cap) (hs : s ≤ sB2 C cap) (k : GO e0 x o m A C K) (a1 a2 a3 : Int32) : w_op_28 e0 m0 x m o a1 a2 a3 S SM c s K := by
  have B := (ST_B H).1
  obtain ⟨hT, hT0⟩ := nf_nI B 14 rfl
  have hT2 : (σ 14 0).toNatClampNeg ≤ 30 := by have h1 : ((σ 14 0).toNatClampNeg : Int) ≤ 30 := hT0; omega
  obtain ⟨hF, hF0⟩ := nf_nI B 40 rfl
  have hF2 : (σ 40 0).toNatClampNeg ≤ 1000 := by have h1 : ((σ 40 0).toNatClampNeg : Int) ≤ 512 := hF0; omega
  unfold w_op_28 w_L_metre
  exact op_i (W := fun a1' m6 m7 post postX => w_X8_metre a1' a1 a2 a3 S m6 m7 post postX) (WM := fun post => w_X9_metre m a1 a2 a3 SM post) H R hC hc hs k (s_metre H hC a1 a2 a3) (fun _ => up2_s _ _ _ _) (fun post hx h => r_metre R B hT hT2 hF hF2 a1 a2 a3 post hx h) (PX := fun post E S => (E = "java/lang/IndexOutOfBoundsException" ∧ (post 1 S)) ∨ (E = "java/lang/IllegalArgumentException" ∧ (post 2 S))) (hPxC2 (by unfold q_metre; repeat (first | exact Or.inl rfl | exact Or.inr rfl | exact Or.inr (Or.inl rfl) | exact Or.inr (Or.inr rfl) | exact Or.inr (Or.inr (Or.inl rfl)) | exact Or.inr (Or.inr (Or.inr rfl)) | refine Z_iT ?_ ?_)))
theorem o_29 (H : ST e0 x o S σ μ C cap) (R : RM A m SM σ μ) (hC : C < 512) (hc : c ≤ cB C cap) (hs : s ≤ sB2 C cap) (k : GO e0 x o m A C K) (a1 a2 a3 : Int32) : w_op_29 e0 m0 x m o a1 a2 a3 S SM c s K := by
  have B := (ST_B H).1
  obtain ⟨hT, hT0⟩ := nf_nI B 14 rfl
  have hT2 : (σ 14 0).toNatClampNeg ≤ 30 := by have h1 : ((σ 14 0).toNatClampNeg : Int) ≤ 30 := hT0; omega
  unfold w_op_29 w_L_search
  exact op_i (W := fun a1' m6 m7 post postX => w_X8_search a1' a1 a2 a3 S m6 m7 post postX) (WM := fun post => w_X9_search m a1 a2 a3 SM post) H R hC hc hs k (s_search H hC a1 a2 a3) (fun _ => up2_s _ _ _ _) (fun post hx h => r_search R B hT hT2 a1 a2 a3 post hx h) (PX := fun post E S => (E = "java/lang/IndexOutOfBoundsException" ∧ (post 1 S)) ∨ (E = "java/lang/IllegalArgumentException" ∧ (post 2 S))) (hPxC2 (by unfold q_search; repeat (first | exact Or.inl rfl | exact Or.inr rfl | exact Or.inr (Or.inl rfl) | exact Or.inr (Or.inr rfl) | exact Or.inr (Or.inr (Or.inl rfl)) | exact Or.inr (Or.inr (Or.inr rfl)) | refine Z_iT ?_ ?_)))
theorem o_30 (H : ST e0 x o S σ μ C cap) (R : RM A m SM σ μ) (hC : C < 512) (hc : c ≤ cB C cap) (hs : s ≤ sB2 C cap) (k : GO e0 x o m A C K) (a1 : Int32) : w_op_30 e0 m0 x m o a1 S SM c s K := by
  have B := (ST_B H).1
  unfold w_op_30 w_L_queue
  exact op_i (W := fun a1' m6 m7 post postX => w_X8_queue a1' a1 S m6 m7 post postX) (WM := fun post => w_X9_queue m a1 SM post) H R hC hc hs k (s_queue H hC a1) (fun _ => up2_s _ _ _ _) (fun post hx h => r_queue R B a1 post hx h) (PX := fun post E S => (E = "java/lang/IndexOutOfBoundsException" ∧ (post 1 S))) (hPxB1 (by unfold q_st; repeat (first | exact Or.inl rfl | exact Or.inr rfl | exact Or.inr (Or.inl rfl) | exact Or.inr (Or.inr rfl) | exact Or.inr (Or.inr (Or.inl rfl)) | exact Or.inr (Or.inr (Or.inr rfl)) | refine Z_iT ?_ ?_)))
theorem o_31 (H : ST e0 x o S σ μ C cap) (R : RM A m SM σ μ) (hC : C < 512) (hc : c ≤ cB C cap) (hs : s ≤ sB2 C cap) (k : GO e0 x o m A C K) (a1 : Int32) : w_op_31 e0 m0 x m o a1 S SM c s K := by
  have B := (ST_B H).1
  obtain ⟨hF, hF0⟩ := nf_nI B 40 rfl
  have hF2 : (σ 40 0).toNatClampNeg ≤ 1000 := by have h1 : ((σ 40 0).toNatClampNeg : Int) ≤ 512 := hF0; omega
  unfold w_op_31 w_L_due
  exact op_i (W := fun a1' m6 m7 post postX => w_X8_due a1' a1 S m6 m7 post postX) (WM := fun post => w_X9_due m a1 SM post) H R hC hc hs k (s_due H hC a1) (fun _ => up2_s _ _ _ _) (fun post hx h => r_due R B hF hF2 a1 post hx h) (PX := fun post E S => (E = "java/lang/IndexOutOfBoundsException" ∧ (post 1 S))) (hPxB1 (by unfold q_pr; repeat (first | exact Or.inl rfl | exact Or.inr rfl | exact Or.inr (Or.inl rfl) | exact Or.inr (Or.inr rfl) | exact Or.inr (Or.inr (Or.inl rfl)) | exact Or.inr (Or.inr (Or.inr rfl)) | refine Z_iT ?_ ?_)))
theorem o_32 (H : ST e0 x o S σ μ C cap) (R : RM A m SM σ μ) (hC : C < 512) (hc : c ≤ cB C cap) (hs : s ≤ sB2 C cap) (k : GO e0 x o m A C K) (a1 : Int32) : w_op_32 e0 m0 x m o a1 S SM c s K := by
  have B := (ST_B H).1
  unfold w_op_32 w_L_money
  exact op_l (W := fun a1' m6 m7 post postX => w_X8_money a1' a1 S m6 m7 post postX) (WM := fun post => w_X9_money m a1 SM post) H R hC hc hs k (s_money H hC a1) (fun _ => up2_s _ _ _ _) (fun post hx h => r_money R a1 post hx h) (PX := fun post E S => (E = "java/lang/IndexOutOfBoundsException" ∧ (post 1 S))) (hPxB1 (by unfold q_mo; repeat (first | exact Or.inl rfl | exact Or.inr rfl | exact Or.inr (Or.inl rfl) | exact Or.inr (Or.inr rfl) | exact Or.inr (Or.inr (Or.inl rfl)) | exact Or.inr (Or.inr (Or.inr rfl)) | refine Z_iT ?_ ?_)))
theorem o_33 (H : ST e0 x o S σ μ C cap) (R : RM A m SM σ μ) (hC : C < 512) (hc : c ≤ cB C cap) (hs : s ≤ sB2 C cap) (k : GO e0 x o m A C K) (a1 : Int32) : w_op_33 e0 m0 x m o a1 S SM c s K := by
  have B := (ST_B H).1
  unfold w_op_33 w_L_moneyAnew
  exact op_l (W := fun a1' m6 m7 post postX => w_X8_moneyAnew a1' a1 S m6 m7 post postX) (WM := fun post => w_X9_moneyAnew m a1 SM post) H R hC hc hs k (s_moneyAnew H hC a1) (fun _ => up2_s _ _ _ _) (fun post hx h => r_moneyAnew R a1 post hx h) (PX := fun post E S => (E = "java/lang/IndexOutOfBoundsException" ∧ (post 1 S))) (hPxB1 (by unfold q_mo; repeat (first | exact Or.inl rfl | exact Or.inr rfl | exact Or.inr (Or.inl rfl) | exact Or.inr (Or.inr rfl) | exact Or.inr (Or.inr (Or.inl rfl)) | exact Or.inr (Or.inr (Or.inr rfl)) | refine Z_iT ?_ ?_)))
end C
