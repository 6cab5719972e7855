/-! the law: all of it -/
section LAWU
variable {u9 v9 e0 m0 x m s w x0 L : Nat} {xs : Nat → Int32} {S M : PT} {σ : SG} {μ : MU} {C cap t G : Nat}
theorem turn_ok (W : LW u9 v9 e0 x m s w S M σ μ C cap t) (ht : t < 130) (hu : 1 ≤ t → 1 ≤ u9) (hv : 3 ≤ t → 1 ≤ v9) {X : Nat} (hX : X < 2147483648) (hG : G < 46) (h1 : t < 2 → G = 0) (h2 : 2 ≤ t → t < 5 → G = 8) : ∃ cap', cap ≤ cap' ∧ cap' ≤ 262144 ∧ ∀ {mc ms : Nat} {post : Int32 → PT → Prop} {k57 : Nat → Nat → PT → Option Nat → Option Nat → Option Nat → Option Nat → Int32 → Int32 → Prop} {c1 n1 : Nat}, c1 + 940 + 14000 * rf t + (cap' - cap) ≤ mc → n1 + 14000 + 450000 * rf t + 2 * (cap' - cap) ≤ ms → (∀ S' M' σ' μ' C' u' v', LW u' v' e0 x m s w S' M' σ' μ' C' cap' (t + 1) → 1 ≤ u' → (3 ≤ t + 1 → 1 ≤ v') → ∀ c2 n2, c2 ≤ c1 + 940 + 14000 * rf t + (cap' - cap) → n2 ≤ n1 + 14000 + 450000 * rf t + 2 * (cap' - cap) → k57 c2 n2 (ov S' M') (some x) (some m) (some s) (some w) 1 (nI (t + 1))) → w_L_law_b104 e0 m0 L xs x0 mc ms post k57 c1 n1 (ov S M) (some x) (some m) (some s) (some w) (nI t) (nI X) (nI G) := by
  by_cases g8 : G < 8
  · exact turn_laid W ht hu hv hX g8 (by omega)
  by_cases g13 : G < 13
  · exact turn_asked W ht hu hv hX (by omega) g13 (by omega)
  by_cases g21 : G < 21
  · exact turn_passed W ht hu hv hX (by omega) g21 (by omega)
  by_cases g23 : G < 23
  · exact turn_defect W ht hu hv hX (by omega) g23 (by omega)
  by_cases g25 : G < 25
  · exact turn_core W ht hu hv hX (by omega) g25 (by omega)
  · exact turn_done W ht hu hv hX (by omega) hG (by omega)
set_option maxRecDepth 100000 in
theorem law_l {mc ms : Nat} {post : Int32 → PT → Prop} : ∀ rem t, t + rem = 130 → ∀ {u9 v9 : Nat} {S M : PT} {σ : SG} {μ : MU} {C cap : Nat}, LW u9 v9 e0 x m s w S M σ μ C cap t → (1 ≤ t → 1 ≤ u9) → (3 ≤ t → 1 ≤ v9) → ∀ c1 n1, c1 + 940 * rem + 14000 * (3 - (t + 44) / 45) + (262144 - cap) ≤ mc → n1 + 14000 * rem + 450000 * (3 - (t + 44) / 45) + 2 * (262144 - cap) ≤ ms → w_L_law_l57 e0 m0 L xs x0 mc ms post (rem + 1) c1 n1 (ov S M) (some x) (some m) (some s) (some w) 1 (nI t) := by
  intro rem
  induction rem with
  | zero =>
    intro t ht u9 v9 S M σ μ C cap W hu hv c1 n1 hc hn
    have d : (130 : Int32) ≤ nI t ↔ 130 ≤ t := qn_le (a := 130) (by omega) (by omega)
    refine ⟨by omega, by omega, fun _ => ?_, fun z => absurd (d.mpr (by omega)) z⟩
    unfold w_L_law_b535
    exact ⟨by omega, by omega, rfl⟩
  | succ rem ih =>
    intro t ht u9 v9 S M σ μ C cap W hu hv c1 n1 hc hn
    have d : (130 : Int32) ≤ nI t ↔ 130 ≤ t := qn_le (a := 130) (by omega) (by omega)
    have d2 : (2 : Int32) ≤ nI t ↔ 2 ≤ t := qn_le (a := 2) (by omega) (by omega)
    have d5 : (5 : Int32) ≤ nI t ↔ 5 ≤ t := qn_le (a := 5) (by omega) (by omega)
    have t0 : (0 : Int32) ≤ nI t := by rw [ile, I0, nI_toInt (by omega)]; omega
    obtain ⟨X, eX, hX⟩ := dz_nI L xs (nI t)
    refine ⟨by omega, by omega, fun z => absurd (d.mp z) (by omega), fun _ => ⟨fun z => absurd z (by decide), fun _ => ⟨t0, ?_⟩⟩⟩
    rintro _ rfl
    rw [eX]
    have hr : rf t = 1 - t % 45 := rfl
    have go : ∀ G : Nat, G < 46 → (t < 2 → G = 0) → (2 ≤ t → t < 5 → G = 8) → w_L_law_b104 e0 m0 L xs x0 mc ms post (w_L_law_l57 e0 m0 L xs x0 mc ms post (rem + 1)) c1 n1 (ov S M) (some x) (some m) (some s) (some w) (nI t) (nI X) (nI G) := fun G hG g1 g2 => by
      obtain ⟨cap', c1', c2', K⟩ := turn_ok (m0 := m0) (x0 := x0) (L := L) (xs := xs) W (by omega) hu hv hX hG g1 g2
      refine K (by omega) (by omega) (fun S' M' σ' μ' C' u' v' W' hu' hv' c2 n2 k1 k2 => ?_)
      exact ih (t + 1) (by omega) W' (fun _ => hu') hv' c2 n2 (by omega) (by omega)
    have e46 : nI X - nI X / 46 * 46 = nI (X % 46) := irem_nI (b := 46) hX (by omega) (by omega)
    rw [e46]
    refine ⟨fun z2 => ⟨fun z5 => go _ (Nat.mod_lt _ (by omega)) (fun z => absurd (d2.mp z2) (by omega)) (fun _ z => absurd (d5.mp z5) (by omega)), fun z5 => go 8 (by omega) (fun z => absurd (d2.mp z2) (by omega)) (fun _ _ => rfl)⟩, fun z2 => go 0 (by omega) (fun _ => rfl) (fun z => absurd (d2.mpr z) z2)⟩
theorem LI_0 : LI (sg 240 6) (fun _ => 0) 0 := by
  have s13 : ∀ q, q < 240 → sg 240 6 13 q = -1 := fun q hq => sg_13 hq
  have z : ∀ f i, f ≠ 13 ∧ f ≠ 6 ∧ f ≠ 8 → sg 240 6 f i = 0 := fun f i h => sg_z h i
  refine ⟨fun q k hq hk e => ?_, fun k _ _ => z 37 k (by decide), fun f hf => ?_, fun k _ => ?_, fun s _ => ?_, LM_up (Nat.zero_le _) LM_0, ?_⟩
  · rw [s13 q hq, ieq, nI_toInt (by omega), tl_m1] at e; omega
  · rw [z 40 0 (by decide), cl_0] at hf; omega
  · rw [z 36 k (by decide), z 31 k (by decide), z 35 k (by decide), I0]; omega
  · rw [z 10 s (by decide), z 0 0 (by decide), I0]; omega
  · rw [z 0 0 (by decide), I0]; omega
theorem LA_0 : LA (sg 240 6) (fun _ => 0) (fun _ => 0) (fun _ => 0) := by
  have z : ∀ f i, f ≠ 13 ∧ f ≠ 6 ∧ f ≠ 8 → sg 240 6 f i = 0 := fun f i h => sg_z h i
  refine ⟨⟨(z 0 0 (by decide)).symm, (z 1 0 (by decide)).symm, (z 14 0 (by decide)).symm, (z 23 0 (by decide)).symm⟩, fun j hj => ?_, fun j hj => ?_, ?_⟩
  · rw [z 1 0 (by decide), cl_0] at hj; omega
  · rw [z 23 0 (by decide), cl_0] at hj; omega
  · rw [z 23 0 (by decide), cl_0]; omega
set_option maxRecDepth 100000 in
set_option maxHeartbeats 2000000 in
theorem pure_L (e0 m0 L x0 : Nat) (xs : Nat → Int32) {mc ms : Nat} (hmc : 460000 ≤ mc) (hms : 4700000 ≤ ms) (post : Int32 → PT → Prop) : w_L_law e0 m0 L xs x0 P0 mc ms post := by
  unfold w_L_law
  refine ⟨by omega, by omega, fun x S140 hx hS => ?_⟩
  subst hS
  refine ⟨60, 2000, by omega, by omega, X8_mk (fun ad S T R W A ex e20 => ⟨by omega, by omega, ?_⟩)⟩
  have H := ST_0 R W A ex e20
  intro m S1 hm e1
  subst e1
  have hm' : gK (ov S P0) m = 0 := hm
  rw [show nA S m 12 4 = ov S (nM S P0 m 4) from ov_nA hm' 4]
  refine ⟨by omega, by omega, ?_⟩
  have k1 := nM_n S P0 m 4
  have d1 := dis_nM (dis_P0 S) hm 4
  intro s S2 hs e2
  subst e2
  rw [ov_nA hs]
  obtain ⟨hs1, hs2⟩ := ov_0 hs
  have nms : m ≠ s := fun e => by rw [← e, k1.1] at hs2; exact absurd hs2 (by decide)
  have k2 := nM_n S (nM S P0 m 4) s 18
  have o2 := nM_o S (nM S P0 m 4) (q := s) 18 nms
  have d2 := dis_nM d1 hs1 18
  refine ⟨by omega, by omega, ?_⟩
  intro w S3 hw e3
  subst e3
  rw [ov_nA hw]
  obtain ⟨hw1, hw2⟩ := ov_0 hw
  have nmw : m ≠ w := fun e => by rw [← e, o2.1, k1.1] at hw2; exact absurd hw2 (by decide)
  have nsw : s ≠ w := fun e => by rw [← e, k2.1] at hw2; exact absurd hw2 (by decide)
  have k3 := nM_n S (nM S (nM S P0 m 4) s 18) w 64
  have o3 := nM_o S (nM S (nM S P0 m 4) s 18) (q := w) 64 nmw
  have o4 := nM_o S (nM S (nM S P0 m 4) s 18) (q := w) 64 nsw
  have d3 := dis_nM d2 hw1 64
  have ma : MA (nM S (nM S (nM S P0 m 4) s 18) w 64) m s w (fun _ => 0) (fun _ => 0) (fun _ => 0) := ⟨⟨o3.1.trans (o2.1.trans k1.1), o3.2.1.trans (o2.2.1.trans k1.2.1), o3.2.2.trans (o2.2.2.trans k1.2.2)⟩, ⟨o4.1.trans k2.1, o4.2.1.trans k2.2.1, o4.2.2.trans k2.2.2⟩, ⟨k3.1, k3.2.1, k3.2.2⟩, nms, nmw, nsw⟩
  have W0 : LW 0 0 e0 x m s w S (nM S (nM S (nM S P0 m 4) s 18) w 64) (sg 240 6) (fun _ => 0) 0 64 0 := LW_mk2 H d3 ma LA_0 LI_0 (by omega) ⟨by omega, by omega⟩ (by omega)
  refine ⟨14000, 450000, by omega, by omega, ?_⟩
  refine refused_ok (X := 0) W0 (by omega) (by omega) (Nat.le_refl _) (Nat.le_refl _) ⟨fun z => absurd z (by decide), fun _ => ⟨14000, 450000, by omega, by omega, ?_⟩⟩
  refine refused_ok (X := 1) W0 (by omega) (by omega) (Nat.le_refl _) (Nat.le_refl _) ⟨fun z => absurd z (by decide), fun _ => ?_⟩
  unfold w_L_law_b52
  exact ⟨by omega, by omega, 131, law_l 130 0 (by omega) W0 (fun z => by omega) (fun z => by omega) _ _ (by omega) (by omega)⟩
end LAWU
